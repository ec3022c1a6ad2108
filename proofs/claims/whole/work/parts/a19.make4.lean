/-! THE MAKING OF THE WORLD: a school. -/
theorem lk_ne {k a : Nat} {e : va_E} {O : List (Nat × va_E)} (h : k ≠ a) (hO : lk k O = none) : lk k ((a, e) :: O) = none := by
  show (if k = a then some e else lk k O) = none
  rw [if_neg h]
  exact hO
theorem or_c {c i : Nat} (h1 : c < 176) (h2 : c % 16 = 0) (hi : i < 16) : ux_or (c + i) = ux_or c + i := by
  unfold ux_or
  (repeat' split) <;> omega
theorem rf_c {c : Nat} (h1 : c < 176) (h2 : c % 16 = 0) (j : Nat) : ux_rf c j = if 4 ≤ j ∧ j < 19 then some (c + j - 3) else none := by
  unfold ux_rf
  rw [if_pos h1, if_pos h2]
theorem kd_c {c : Nat} (h1 : c < 176) (h2 : c % 16 = 0) : ux_kd c = 4 := by
  unfold ux_kd
  rw [if_pos h1, if_pos h2]
theorem ln_c {c : Nat} (h1 : c < 176) (h2 : c % 16 = 0) : ux_ln c = 19 := by
  unfold ux_ln
  rw [if_pos h1, if_pos h2]
theorem kd_a {c i : Nat} (h1 : c < 176) (h2 : c % 16 = 0) (hi : 1 ≤ i ∧ i < 16) : ux_kd (c + i) = 10 := by
  unfold ux_kd
  rw [if_pos (by omega), if_neg (by omega)]
theorem ln_a {c i : Nat} (h1 : c < 176) (h2 : c % 16 = 0) (hi : 1 ≤ i ∧ i < 16) : ux_ln (c + i) = if i < 6 then 8 else if i < 8 then 6 else 40 := by
  unfold ux_ln
  rw [if_pos (by omega), if_neg (by omega), show (c + i) % 16 = i by omega]
theorem x0_a {c i j : Nat} (h1 : c < 176) (h2 : c % 16 = 0) (hi : i < 16) : x0 (c + i) j = if i = 6 ∧ j < 6 then 20 else if i = 7 ∧ j < 6 then 30 else 0 := by
  unfold x0
  rw [if_pos (by omega), show (c + i) % 16 = i by omega]
theorem en_a {G : ux_G} {c i N : Nat} {f : Nat → Int32} (h1 : c < 176) (h2 : c % 16 = 0) (hi : 1 ≤ i ∧ i < 16) (hN : ux_ln (c + i) = N) (hf : ∀ j, f j = x0 (c + i) j) : .inl (G.2.2.2 0, N, .inl f) = ux_en G X0 (c + i) := by
  rw [ux_en_i (kd_a h1 h2 hi), hN]
  have e : f = xgi X0 (c + i) := funext fun j => by rw [X0_g (by omega), hf j]
  rw [e]
theorem en_z {G : ux_G} {c i N : Nat} (h1 : c < 176) (h2 : c % 16 = 0) (hi : 1 ≤ i ∧ i < 16 ∧ i ≠ 6 ∧ i ≠ 7) (hN : (if i < 6 then 8 else if i < 8 then 6 else 40) = N) : .inl (G.2.2.2 0, N, .inl (fun _ => 0)) = ux_en G X0 (c + i) :=
  en_a h1 h2 (by omega) ((ln_a h1 h2 (by omega)).trans hN) fun j => by rw [x0_a h1 h2 (by omega), if_neg (by omega), if_neg (by omega)]
theorem fv_c {G : ux_G} {c j : Nat} (h1 : c < 176) (h2 : c % 16 = 0) (hj : 4 ≤ j ∧ j < 19) : ux_fv G X0 c j = .ref (G.2.1 (c + j - 3)) := by
  unfold ux_fv
  rw [rf_c h1 h2, if_pos hj]
theorem fv_c0 {G : ux_G} {c j : Nat} (h1 : c < 176) (h2 : c % 16 = 0) (hj : j < 4) : ux_fv G X0 c j = .int 0 := by
  have e : xgi X0 c j = 0 := by
    have := x0_a (i := 0) (j := j) h1 h2 (by decide)
    rw [Nat.add_zero] at this
    rw [X0_g (by omega), this, if_neg (by omega), if_neg (by omega)]
  unfold ux_fv
  rw [rf_c h1 h2, if_neg (by omega)]
  show Value.int (xgi X0 c j) = _
  rw [e]
theorem gfs_same {G : ux_G} {k i j : Nat} {v : Value} (hj : j < ux_ln k) (hi : j < i) (e : v = ux_fv G X0 k j) : (gfs G k i).set j v = gfs G k i := by
  subst e
  apply List.ext_getElem?
  intro a
  rw [List.getElem?_set]
  by_cases q : j = a
  · subst q
    rw [if_pos rfl, gfs_len, if_pos hj, gfs_at hj hi]
  · rw [if_neg q]
theorem en_c {G : ux_G} {c : Nat} (h1 : c < 176) (h2 : c % 16 = 0) : .inr (4, gfs G c 19) = ux_en G X0 c := by
  have := gfs_end (G := G) (k := c) (by rw [kd_c h1 h2]; decide)
  rw [kd_c h1 h2, ln_c h1 h2] at this
  exact this
theorem c_reset {l : Launch} {G : ux_G} {O : List (Nat × va_E)} {n c : Nat} (al : ux_al G) (h1 : c < 176) (h2 : c % 16 = 0) (ho : ux_or c + 15 < n) (hO : ∀ i, i < 16 → lk (c + i) O = none) : cx_M l G yX4_reset iX4_reset 1 0 [.ref c] ((c, .inr (4, gfs G c 19)) :: (c + 7, .inl (G.2.2.2 0, 6, .inl (fun _ => 0))) :: (c + 6, .inl (G.2.2.2 0, 6, .inl (fun _ => 0))) :: O) n O n := by
  refine cx_ent (b := false) (L' := [some (.ref c)]) kX4_reset rfl (fun y => by cases y) rfl rfl rfl ?_
  refine c_aload_n dX4_reset_0 rfl ?_
  refine c_iconst (v := 0) dX4_reset_1 rfl ?_
  refine c_put (fun y => by cases y) aX4_9 dX4_reset_2 al (kd_c h1 h2) (by omega) rfl rfl (by rw [gfs_len, ln_c h1 h2]; decide) ?_
  rw [gfs_same (by rw [ln_c h1 h2]; decide) (by decide) (show ux_cv G (.int 0) = _ from (fv_c0 h1 h2 (by decide)).symm)]
  refine c_aload_n dX4_reset_5 rfl ?_
  refine c_iconst (v := 0) dX4_reset_6 rfl ?_
  refine c_put (fun y => by cases y) aX4_15 dX4_reset_7 al (kd_c h1 h2) (by omega) rfl rfl (by rw [gfs_len, ln_c h1 h2]; decide) ?_
  rw [gfs_same (by rw [ln_c h1 h2]; decide) (by decide) (show ux_cv G (.int 0) = _ from (fv_c0 h1 h2 (by decide)).symm)]
  refine c_aload_n dX4_reset_10 rfl ?_
  refine c_iconst (v := 0) dX4_reset_11 rfl ?_
  refine c_put (fun y => by cases y) aX4_18 dX4_reset_12 al (kd_c h1 h2) (by omega) rfl rfl (by rw [gfs_len, ln_c h1 h2]; decide) ?_
  rw [gfs_same (by rw [ln_c h1 h2]; decide) (by decide) (show ux_cv G (.int 0) = _ from (fv_c0 h1 h2 (by decide)).symm)]
  refine c_aload_n dX4_reset_15 rfl ?_
  refine c_iconst (v := 0) dX4_reset_16 rfl ?_
  refine c_put (fun y => by cases y) aX4_21 dX4_reset_17 al (kd_c h1 h2) (by omega) rfl rfl (by rw [gfs_len, ln_c h1 h2]; decide) ?_
  rw [gfs_same (by rw [ln_c h1 h2]; decide) (by decide) (show ux_cv G (.int 0) = _ from (fv_c0 h1 h2 (by decide)).symm)]
  have o6 : ux_or (c + 6) < n := by rw [or_c h1 h2 (by decide)]; omega
  have o7 : ux_or (c + 7) < n := by rw [or_c h1 h2 (by decide)]; omega
  refine c_aload_n dX4_reset_20 rfl ?_
  refine c_getr (q := c + 6) fX4_40 dX4_reset_21 (by omega) (by omega) (ct_top _ _ _ _) (by rw [gfs_at (by rw [ln_c h1 h2]; decide) (by decide), fv_c h1 h2 (by decide)]; rfl) (by omega) ?_
  refine c_bipush (v := 20) dX4_reset_24 rfl ?_
  refine c_O (ct_pull [(c, .inr (4, gfs G c 19)), (c + 7, .inl (G.2.2.2 0, 6, .inl (fun _ => 0)))] (lk_ne (by omega) (lk_ne (by omega) rfl))) ?_
  refine c_callSN (rest := []) lX4_73 kX5_fill (c_fill al (by omega) o6 (by decide)) dX4_reset_26 rfl rfl rfl rfl (by decide) ?_
  refine c_O (ct_close (lk_ne (by omega) (lk_ne (by omega) (hO 6 (by decide)))) (en_a h1 h2 (by decide) (ln_a h1 h2 (by decide)) (fun j => by rw [x0_a h1 h2 (by decide)]; simp))) ?_
  refine c_aload_n dX4_reset_29 rfl ?_
  refine c_getr (q := c + 7) fX4_43 dX4_reset_30 (by omega) (by omega) (ct_top _ _ _ _) (by rw [gfs_at (by rw [ln_c h1 h2]; decide) (by decide), fv_c h1 h2 (by decide)]; rfl) (by omega) ?_
  refine c_bipush (v := 30) dX4_reset_33 rfl ?_
  refine c_O (ct_pull [(c, .inr (4, gfs G c 19))] (lk_ne (by omega) rfl)) ?_
  refine c_callSN (rest := []) lX4_73 kX5_fill (c_fill al (by omega) o7 (by decide)) dX4_reset_35 rfl rfl rfl rfl (by decide) ?_
  refine c_O (ct_close (lk_ne (by omega) (hO 7 (by decide))) (en_a h1 h2 (by decide) (ln_a h1 h2 (by decide)) (fun j => by rw [x0_a h1 h2 (by decide)]; simp))) ?_
  refine c_O (ct_close (hO 0 (by decide)) (en_c h1 h2)) ?_
  exact c_return dX4_reset_38 rfl (Nat.le_refl _)
set_option maxRecDepth 100000 in
/-- a school is made -/
theorem c_School {l : Launch} {G : ux_G} {O : List (Nat × va_E)} {n c : Nat} (al : ux_al G) (h1 : c < 176) (h2 : c % 16 = 0) (ho : n = ux_or c + 1) (hO : ∀ i, i < 16 → lk (c + i) O = none) : cx_M l G yX4_init iX4_init 2 68 [.ref c] ((c, .inr (4, gfs G c 0)) :: O) n O (n + 15) := by
  refine cx_ent (b := true) (L' := [some (.ref c)]) kX4_init rfl (fun _ => rfl) rfl rfl rfl ?_
  refine c_aload_n dX4_init_0 rfl ?_
  refine c_obj oX4 o_in o_cd dX4_init_1 (by omega) ⟨by decide, by decide⟩ (by decide) ?_
  refine c_aload_n dX4_init_4 rfl ?_
  refine c_iconst (v := 0) dX4_init_5 rfl ?_
  refine c_pi aX4_9 dX4_init_6 al (kd_c h1 h2) (by omega) (by rw [rf_c h1 h2, if_neg (by decide)]) (Value.int.inj (by have := fv_c0 (G := G) (j := 0) h1 h2 (by decide); unfold ux_fv at this; rw [rf_c h1 h2, if_neg (by decide)] at this; exact this)) (by rw [ln_c h1 h2]; decide) rfl rfl ?_
  refine c_aload_n dX4_init_9 rfl ?_
  refine c_iconst (v := 0) dX4_init_10 rfl ?_
  refine c_pi aX4_15 dX4_init_11 al (kd_c h1 h2) (by omega) (by rw [rf_c h1 h2, if_neg (by decide)]) (Value.int.inj (by have := fv_c0 (G := G) (j := 1) h1 h2 (by decide); unfold ux_fv at this; rw [rf_c h1 h2, if_neg (by decide)] at this; exact this)) (by rw [ln_c h1 h2]; decide) rfl rfl ?_
  refine c_aload_n dX4_init_14 rfl ?_
  refine c_iconst (v := 0) dX4_init_15 rfl ?_
  refine c_pi aX4_18 dX4_init_16 al (kd_c h1 h2) (by omega) (by rw [rf_c h1 h2, if_neg (by decide)]) (Value.int.inj (by have := fv_c0 (G := G) (j := 2) h1 h2 (by decide); unfold ux_fv at this; rw [rf_c h1 h2, if_neg (by decide)] at this; exact this)) (by rw [ln_c h1 h2]; decide) rfl rfl ?_
  refine c_aload_n dX4_init_19 rfl ?_
  refine c_iconst (v := 0) dX4_init_20 rfl ?_
  refine c_pi aX4_21 dX4_init_21 al (kd_c h1 h2) (by omega) (by rw [rf_c h1 h2, if_neg (by decide)]) (Value.int.inj (by have := fv_c0 (G := G) (j := 3) h1 h2 (by decide); unfold ux_fv at this; rw [rf_c h1 h2, if_neg (by decide)] at this; exact this)) (by rw [ln_c h1 h2]; decide) rfl rfl ?_
  refine c_aload_n dX4_init_24 rfl ?_
  refine c_bipush (v := nI 8) dX4_init_25 rfl ?_
  refine c_newa (t0 := 0) (N := 8) (k1 := c + 1) (du := 2) (a0 := (8, .inl (fun _ => 0))) dX4_init_27 rfl w_ai rfl (fun _ _ h => h) (fun _ => rfl) rfl (by decide) (by decide) al (by omega) (by rw [or_c h1 h2 (by decide)]; omega) (by decide) (by decide) ?_
  refine c_O (ct_close (lk_ne (by omega) (hO 1 (by decide))) (en_z h1 h2 (by decide) rfl)) ?_
  refine c_pr (q := c + 1) aX4_24 dX4_init_29 al (kd_c h1 h2) (by omega) (by rw [rf_c h1 h2, if_pos (by decide)]; rfl) (by omega) (by rw [ln_c h1 h2]; decide) (fun _ => rfl) (fun _ => rfl) ?_
  refine c_aload_n dX4_init_32 rfl ?_
  refine c_bipush (v := nI 8) dX4_init_33 rfl ?_
  refine c_newa (t0 := 0) (N := 8) (k1 := c + 2) (du := 2) (a0 := (8, .inl (fun _ => 0))) dX4_init_35 rfl w_ai rfl (fun _ _ h => h) (fun _ => rfl) rfl (by decide) (by decide) al (by omega) (by rw [or_c h1 h2 (by decide)]; omega) (by decide) (by decide) ?_
  refine c_O (ct_close (lk_ne (by omega) (hO 2 (by decide))) (en_z h1 h2 (by decide) rfl)) ?_
  refine c_pr (q := c + 2) aX4_28 dX4_init_37 al (kd_c h1 h2) (by omega) (by rw [rf_c h1 h2, if_pos (by decide)]; rfl) (by omega) (by rw [ln_c h1 h2]; decide) (fun _ => rfl) (fun _ => rfl) ?_
  refine c_aload_n dX4_init_40 rfl ?_
  refine c_bipush (v := nI 8) dX4_init_41 rfl ?_
  refine c_newa (t0 := 0) (N := 8) (k1 := c + 3) (du := 2) (a0 := (8, .inl (fun _ => 0))) dX4_init_43 rfl w_ai rfl (fun _ _ h => h) (fun _ => rfl) rfl (by decide) (by decide) al (by omega) (by rw [or_c h1 h2 (by decide)]; omega) (by decide) (by decide) ?_
  refine c_O (ct_close (lk_ne (by omega) (hO 3 (by decide))) (en_z h1 h2 (by decide) rfl)) ?_
  refine c_pr (q := c + 3) aX4_31 dX4_init_45 al (kd_c h1 h2) (by omega) (by rw [rf_c h1 h2, if_pos (by decide)]; rfl) (by omega) (by rw [ln_c h1 h2]; decide) (fun _ => rfl) (fun _ => rfl) ?_
  refine c_aload_n dX4_init_48 rfl ?_
  refine c_bipush (v := nI 8) dX4_init_49 rfl ?_
  refine c_newa (t0 := 0) (N := 8) (k1 := c + 4) (du := 2) (a0 := (8, .inl (fun _ => 0))) dX4_init_51 rfl w_ai rfl (fun _ _ h => h) (fun _ => rfl) rfl (by decide) (by decide) al (by omega) (by rw [or_c h1 h2 (by decide)]; omega) (by decide) (by decide) ?_
  refine c_O (ct_close (lk_ne (by omega) (hO 4 (by decide))) (en_z h1 h2 (by decide) rfl)) ?_
  refine c_pr (q := c + 4) aX4_34 dX4_init_53 al (kd_c h1 h2) (by omega) (by rw [rf_c h1 h2, if_pos (by decide)]; rfl) (by omega) (by rw [ln_c h1 h2]; decide) (fun _ => rfl) (fun _ => rfl) ?_
  refine c_aload_n dX4_init_56 rfl ?_
  refine c_bipush (v := nI 8) dX4_init_57 rfl ?_
  refine c_newa (t0 := 0) (N := 8) (k1 := c + 5) (du := 2) (a0 := (8, .inl (fun _ => 0))) dX4_init_59 rfl w_ai rfl (fun _ _ h => h) (fun _ => rfl) rfl (by decide) (by decide) al (by omega) (by rw [or_c h1 h2 (by decide)]; omega) (by decide) (by decide) ?_
  refine c_O (ct_close (lk_ne (by omega) (hO 5 (by decide))) (en_z h1 h2 (by decide) rfl)) ?_
  refine c_pr (q := c + 5) aX4_37 dX4_init_61 al (kd_c h1 h2) (by omega) (by rw [rf_c h1 h2, if_pos (by decide)]; rfl) (by omega) (by rw [ln_c h1 h2]; decide) (fun _ => rfl) (fun _ => rfl) ?_
  refine c_aload_n dX4_init_64 rfl ?_
  refine c_bipush (v := nI 6) dX4_init_65 rfl ?_
  refine c_newa (t0 := 0) (N := 6) (k1 := c + 6) (du := 1) (a0 := (6, .inl (fun _ => 0))) dX4_init_67 rfl w_ai rfl (fun _ _ h => h) (fun _ => rfl) rfl (by decide) (by decide) al (by omega) (by rw [or_c h1 h2 (by decide)]; omega) (by decide) (by decide) ?_
  refine c_O (ct_swap (by omega)) ?_
  refine c_pr (q := c + 6) aX4_40 dX4_init_69 al (kd_c h1 h2) (by omega) (by rw [rf_c h1 h2, if_pos (by decide)]; rfl) (by omega) (by rw [ln_c h1 h2]; decide) (fun _ => rfl) (fun _ => rfl) ?_
  refine c_aload_n dX4_init_72 rfl ?_
  refine c_bipush (v := nI 6) dX4_init_73 rfl ?_
  refine c_newa (t0 := 0) (N := 6) (k1 := c + 7) (du := 1) (a0 := (6, .inl (fun _ => 0))) dX4_init_75 rfl w_ai rfl (fun _ _ h => h) (fun _ => rfl) rfl (by decide) (by decide) al (by omega) (by rw [or_c h1 h2 (by decide)]; omega) (by decide) (by decide) ?_
  refine c_O (ct_swap (by omega)) ?_
  refine c_pr (q := c + 7) aX4_43 dX4_init_77 al (kd_c h1 h2) (by omega) (by rw [rf_c h1 h2, if_pos (by decide)]; rfl) (by omega) (by rw [ln_c h1 h2]; decide) (fun _ => rfl) (fun _ => rfl) ?_
  refine c_aload_n dX4_init_80 rfl ?_
  refine c_bipush (v := nI 40) dX4_init_81 rfl ?_
  refine c_newa (t0 := 0) (N := 40) (k1 := c + 8) (du := 7) (a0 := (40, .inl (fun _ => 0))) dX4_init_83 rfl w_ai rfl (fun _ _ h => h) (fun _ => rfl) rfl (by decide) (by decide) al (by omega) (by rw [or_c h1 h2 (by decide)]; omega) (by decide) (by decide) ?_
  refine c_O (ct_close (lk_ne (by omega) (lk_ne (by omega) (lk_ne (by omega) (hO 8 (by decide))))) (en_z h1 h2 (by decide) rfl)) ?_
  refine c_pr (q := c + 8) aX4_46 dX4_init_85 al (kd_c h1 h2) (by omega) (by rw [rf_c h1 h2, if_pos (by decide)]; rfl) (by omega) (by rw [ln_c h1 h2]; decide) (fun _ => rfl) (fun _ => rfl) ?_
  refine c_aload_n dX4_init_88 rfl ?_
  refine c_bipush (v := nI 40) dX4_init_89 rfl ?_
  refine c_newa (t0 := 0) (N := 40) (k1 := c + 9) (du := 7) (a0 := (40, .inl (fun _ => 0))) dX4_init_91 rfl w_ai rfl (fun _ _ h => h) (fun _ => rfl) rfl (by decide) (by decide) al (by omega) (by rw [or_c h1 h2 (by decide)]; omega) (by decide) (by decide) ?_
  refine c_O (ct_close (lk_ne (by omega) (lk_ne (by omega) (lk_ne (by omega) (hO 9 (by decide))))) (en_z h1 h2 (by decide) rfl)) ?_
  refine c_pr (q := c + 9) aX4_49 dX4_init_93 al (kd_c h1 h2) (by omega) (by rw [rf_c h1 h2, if_pos (by decide)]; rfl) (by omega) (by rw [ln_c h1 h2]; decide) (fun _ => rfl) (fun _ => rfl) ?_
  refine c_aload_n dX4_init_96 rfl ?_
  refine c_bipush (v := nI 40) dX4_init_97 rfl ?_
  refine c_newa (t0 := 0) (N := 40) (k1 := c + 10) (du := 7) (a0 := (40, .inl (fun _ => 0))) dX4_init_99 rfl w_ai rfl (fun _ _ h => h) (fun _ => rfl) rfl (by decide) (by decide) al (by omega) (by rw [or_c h1 h2 (by decide)]; omega) (by decide) (by decide) ?_
  refine c_O (ct_close (lk_ne (by omega) (lk_ne (by omega) (lk_ne (by omega) (hO 10 (by decide))))) (en_z h1 h2 (by decide) rfl)) ?_
  refine c_pr (q := c + 10) aX4_52 dX4_init_101 al (kd_c h1 h2) (by omega) (by rw [rf_c h1 h2, if_pos (by decide)]; rfl) (by omega) (by rw [ln_c h1 h2]; decide) (fun _ => rfl) (fun _ => rfl) ?_
  refine c_aload_n dX4_init_104 rfl ?_
  refine c_bipush (v := nI 40) dX4_init_105 rfl ?_
  refine c_newa (t0 := 0) (N := 40) (k1 := c + 11) (du := 7) (a0 := (40, .inl (fun _ => 0))) dX4_init_107 rfl w_ai rfl (fun _ _ h => h) (fun _ => rfl) rfl (by decide) (by decide) al (by omega) (by rw [or_c h1 h2 (by decide)]; omega) (by decide) (by decide) ?_
  refine c_O (ct_close (lk_ne (by omega) (lk_ne (by omega) (lk_ne (by omega) (hO 11 (by decide))))) (en_z h1 h2 (by decide) rfl)) ?_
  refine c_pr (q := c + 11) aX4_55 dX4_init_109 al (kd_c h1 h2) (by omega) (by rw [rf_c h1 h2, if_pos (by decide)]; rfl) (by omega) (by rw [ln_c h1 h2]; decide) (fun _ => rfl) (fun _ => rfl) ?_
  refine c_aload_n dX4_init_112 rfl ?_
  refine c_bipush (v := nI 40) dX4_init_113 rfl ?_
  refine c_newa (t0 := 0) (N := 40) (k1 := c + 12) (du := 7) (a0 := (40, .inl (fun _ => 0))) dX4_init_115 rfl w_ai rfl (fun _ _ h => h) (fun _ => rfl) rfl (by decide) (by decide) al (by omega) (by rw [or_c h1 h2 (by decide)]; omega) (by decide) (by decide) ?_
  refine c_O (ct_close (lk_ne (by omega) (lk_ne (by omega) (lk_ne (by omega) (hO 12 (by decide))))) (en_z h1 h2 (by decide) rfl)) ?_
  refine c_pr (q := c + 12) aX4_58 dX4_init_117 al (kd_c h1 h2) (by omega) (by rw [rf_c h1 h2, if_pos (by decide)]; rfl) (by omega) (by rw [ln_c h1 h2]; decide) (fun _ => rfl) (fun _ => rfl) ?_
  refine c_aload_n dX4_init_120 rfl ?_
  refine c_bipush (v := nI 40) dX4_init_121 rfl ?_
  refine c_newa (t0 := 0) (N := 40) (k1 := c + 13) (du := 7) (a0 := (40, .inl (fun _ => 0))) dX4_init_123 rfl w_ai rfl (fun _ _ h => h) (fun _ => rfl) rfl (by decide) (by decide) al (by omega) (by rw [or_c h1 h2 (by decide)]; omega) (by decide) (by decide) ?_
  refine c_O (ct_close (lk_ne (by omega) (lk_ne (by omega) (lk_ne (by omega) (hO 13 (by decide))))) (en_z h1 h2 (by decide) rfl)) ?_
  refine c_pr (q := c + 13) aX4_61 dX4_init_125 al (kd_c h1 h2) (by omega) (by rw [rf_c h1 h2, if_pos (by decide)]; rfl) (by omega) (by rw [ln_c h1 h2]; decide) (fun _ => rfl) (fun _ => rfl) ?_
  refine c_aload_n dX4_init_128 rfl ?_
  refine c_bipush (v := nI 40) dX4_init_129 rfl ?_
  refine c_newa (t0 := 0) (N := 40) (k1 := c + 14) (du := 7) (a0 := (40, .inl (fun _ => 0))) dX4_init_131 rfl w_ai rfl (fun _ _ h => h) (fun _ => rfl) rfl (by decide) (by decide) al (by omega) (by rw [or_c h1 h2 (by decide)]; omega) (by decide) (by decide) ?_
  refine c_O (ct_close (lk_ne (by omega) (lk_ne (by omega) (lk_ne (by omega) (hO 14 (by decide))))) (en_z h1 h2 (by decide) rfl)) ?_
  refine c_pr (q := c + 14) aX4_64 dX4_init_133 al (kd_c h1 h2) (by omega) (by rw [rf_c h1 h2, if_pos (by decide)]; rfl) (by omega) (by rw [ln_c h1 h2]; decide) (fun _ => rfl) (fun _ => rfl) ?_
  refine c_aload_n dX4_init_136 rfl ?_
  refine c_bipush (v := nI 40) dX4_init_137 rfl ?_
  refine c_newa (t0 := 0) (N := 40) (k1 := c + 15) (du := 7) (a0 := (40, .inl (fun _ => 0))) dX4_init_139 rfl w_ai rfl (fun _ _ h => h) (fun _ => rfl) rfl (by decide) (by decide) al (by omega) (by rw [or_c h1 h2 (by decide)]; omega) (by decide) (by decide) ?_
  refine c_O (ct_close (lk_ne (by omega) (lk_ne (by omega) (lk_ne (by omega) (hO 15 (by decide))))) (en_z h1 h2 (by decide) rfl)) ?_
  refine c_pr (q := c + 15) aX4_67 dX4_init_141 al (kd_c h1 h2) (by omega) (by rw [rf_c h1 h2, if_pos (by decide)]; rfl) (by omega) (by rw [ln_c h1 h2]; decide) (fun _ => rfl) (fun _ => rfl) ?_
  refine c_aload_n dX4_init_144 rfl ?_
  refine c_callV lX4_70 kX4_reset (c_reset al h1 h2 (by omega) hO) dX4_init_145 rfl (by omega) (by omega) (ct_top _ _ _ _) rfl rfl (by decide) ?_
  exact c_return dX4_init_148 rfl (by decide)
