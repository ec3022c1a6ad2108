/-! THE MAKING OF THE WORLD: the desk and the reference. -/
theorem w5_c7 : Cond.classLink RX5 7 RX4 ∈ ux_T := ux_mem (n := 168) (by decide +kernel) (by decide +kernel)
theorem w5_l9 : Cond.methodLinkNest RX5 9 yX4_init "SubstituteDesk" ∈ ux_N := ux_memN (n := 170) (by decide +kernel) (by decide +kernel)
theorem w5_c22 : Cond.classLink RX5 22 RX0 ∈ ux_T := ux_mem (n := 266) (by decide +kernel) (by decide +kernel)
theorem w5_l24 : Cond.methodLinkNest RX5 24 yX0_init "SubstituteDesk" ∈ ux_N := ux_memN (n := 268) (by decide +kernel) (by decide +kernel)
theorem w5_c29 : Cond.classLink RX5 29 RX3 ∈ ux_T := ux_mem (n := 286) (by decide +kernel) (by decide +kernel)
theorem w5_l31 : Cond.methodLinkNest RX5 31 yX3_init "SubstituteDesk" ∈ ux_N := ux_memN (n := 288) (by decide +kernel) (by decide +kernel)
theorem w5_c36 : Cond.classLink RX5 36 RX1 ∈ ux_T := ux_mem (n := 334) (by decide +kernel) (by decide +kernel)
theorem w5_l38 : Cond.methodLinkNest RX5 38 yX1_init "SubstituteDesk" ∈ ux_N := ux_memN (n := 336) (by decide +kernel) (by decide +kernel)
theorem w5_c43 : Cond.classLink RX5 43 RX2 ∈ ux_T := ux_mem (n := 376) (by decide +kernel) (by decide +kernel)
theorem w5_l45 : Cond.methodLinkNest RX5 45 yX2_init "SubstituteDesk" ∈ ux_N := ux_memN (n := 378) (by decide +kernel) (by decide +kernel)
set_option maxRecDepth 100000 in
theorem c_Desk {l : Launch} {G : ux_G} (al : ux_al G) : cx_M l G yX5_init iX5_init 4 829 [.ref 176] [(176, .inr (5, gfs G 176 0))] 1 [] 192 := by
  refine cx_ent (b := true) (L' := [some (.ref 176)]) kX5_init rfl (fun _ => rfl) rfl rfl rfl ?_
  refine c_aload_n dX5_init_0 rfl ?_
  refine c_obj oX5 o_in o_cd dX5_init_1 (by decide) ⟨by decide, by decide⟩ (by decide) ?_
  refine c_aload_n dX5_init_4 rfl ?_
  refine c_new (k1 := 0) (du := 4) dX5_init_5 (ci := 4) rfl ux_iwX4 tyX4_ok w5_c7 jX4 zX4 (hf_c (by decide) (by decide)) al (by decide) (by decide) (by decide) (by decide) ?_
  refine c_dup dX5_init_8 rfl ?_
  refine c_init (Or.inr ⟨_, w5_l9⟩) nX4_init kX4_init (c_School al (by decide) (by decide) (by decide) (fun i hi => lk_ne (by omega) rfl)) dX5_init_9 rfl rfl rfl (by decide) (by decide) (Nat.le_of_ble_eq_true rfl) ?_
  refine c_pr (q := 0) aX5_10 dX5_init_12 al rfl (by decide) rfl (by decide) (by decide) (fun _ => rfl) (fun _ => rfl) ?_
  refine c_aload_n dX5_init_15 rfl ?_
  refine c_new (k1 := 16) (du := 4) dX5_init_16 (ci := 4) rfl ux_iwX4 tyX4_ok w5_c7 jX4 zX4 (hf_c (by decide) (by decide)) al (by decide) (by decide) (by decide) (by decide) ?_
  refine c_dup dX5_init_19 rfl ?_
  refine c_init (Or.inr ⟨_, w5_l9⟩) nX4_init kX4_init (c_School al (by decide) (by decide) (by decide) (fun i hi => lk_ne (by omega) rfl)) dX5_init_20 rfl rfl rfl (by decide) (by decide) (Nat.le_of_ble_eq_true rfl) ?_
  refine c_pr (q := 16) aX5_16 dX5_init_23 al rfl (by decide) rfl (by decide) (by decide) (fun _ => rfl) (fun _ => rfl) ?_
  refine c_aload_n dX5_init_26 rfl ?_
  refine c_new (k1 := 32) (du := 4) dX5_init_27 (ci := 4) rfl ux_iwX4 tyX4_ok w5_c7 jX4 zX4 (hf_c (by decide) (by decide)) al (by decide) (by decide) (by decide) (by decide) ?_
  refine c_dup dX5_init_30 rfl ?_
  refine c_init (Or.inr ⟨_, w5_l9⟩) nX4_init kX4_init (c_School al (by decide) (by decide) (by decide) (fun i hi => lk_ne (by omega) rfl)) dX5_init_31 rfl rfl rfl (by decide) (by decide) (Nat.le_of_ble_eq_true rfl) ?_
  refine c_pr (q := 32) aX5_19 dX5_init_34 al rfl (by decide) rfl (by decide) (by decide) (fun _ => rfl) (fun _ => rfl) ?_
  refine c_aload_n dX5_init_37 rfl ?_
  refine c_new (k1 := 177) (du := 1) dX5_init_38 (ci := 0) rfl ux_iwX0 tyX0_ok w5_c22 jX0 zX0 (hf_of (N := 3) rfl (by decide +kernel)) al (by decide) (by decide) (by decide) (by decide) ?_
  refine c_dup dX5_init_41 rfl ?_
  refine c_init (Or.inr ⟨_, w5_l24⟩) nX0_init kX0_init (c_History al (fun k hk => lk_ne hk rfl)) dX5_init_42 rfl rfl rfl (by decide) (by decide) (Nat.le_of_ble_eq_true rfl) ?_
  refine c_pr (q := 177) aX5_25 dX5_init_45 al rfl (by decide) rfl (by decide) (by decide) (fun _ => rfl) (fun _ => rfl) ?_
  refine c_aload_n dX5_init_48 rfl ?_
  refine c_new (k1 := 179) (du := 2) dX5_init_49 (ci := 3) rfl ux_iwX3 tyX3_ok w5_c29 jX3 zX3 (hf_of (N := 12) rfl (by decide +kernel)) al (by decide) (by decide) (by decide) (by decide) ?_
  refine c_dup dX5_init_52 rfl ?_
  refine c_init (Or.inr ⟨_, w5_l31⟩) nX3_init kX3_init (c_Planner al (fun k hk => lk_ne hk rfl)) dX5_init_53 rfl rfl rfl (by decide) (by decide) (Nat.le_of_ble_eq_true rfl) ?_
  refine c_pr (q := 179) aX5_32 dX5_init_56 al rfl (by decide) rfl (by decide) (by decide) (fun _ => rfl) (fun _ => rfl) ?_
  refine c_aload_n dX5_init_59 rfl ?_
  refine c_new (k1 := 188) (du := 2) dX5_init_60 (ci := 1) rfl ux_iwX1 tyX1_ok w5_c36 jX1 zX1 (hf_of (N := 11) rfl (by decide +kernel)) al (by decide) (by decide) (by decide) (by decide) ?_
  refine c_dup dX5_init_63 rfl ?_
  refine c_init (Or.inr ⟨_, w5_l38⟩) nX1_init kX1_init (c_Input al (fun k hk => lk_ne hk rfl)) dX5_init_64 rfl rfl rfl (by decide) (by decide) (Nat.le_of_ble_eq_true rfl) ?_
  refine c_pr (q := 188) aX5_39 dX5_init_67 al rfl (by decide) rfl (by decide) (by decide) (fun _ => rfl) (fun _ => rfl) ?_
  refine c_aload_n dX5_init_70 rfl ?_
  refine c_new (k1 := 190) (du := 1) dX5_init_71 (ci := 2) rfl ux_iwX2 tyX2_ok w5_c43 jX2 zX2 (hf_of (N := 2) rfl (by decide +kernel)) al (by decide) (by decide) (by decide) (by decide) ?_
  refine c_dup dX5_init_74 rfl ?_
  refine c_init (Or.inr ⟨_, w5_l45⟩) nX2_init kX2_init (c_Line al (fun k hk => lk_ne hk rfl)) dX5_init_75 rfl rfl rfl (by decide) (by decide) (Nat.le_of_ble_eq_true rfl) ?_
  refine c_pr (q := 190) aX5_46 dX5_init_78 al rfl (by decide) rfl (by decide) (by decide) (fun _ => rfl) (fun _ => rfl) ?_
  refine c_aload_n dX5_init_81 rfl ?_
  refine c_iconst (v := 0) dX5_init_82 (by decide) ?_
  refine c_pi aX5_50 dX5_init_83 al rfl (by decide) rfl ((X0_g (by decide) _).trans (by decide)) (by decide) (by decide) (by decide) ?_
  refine c_aload_n dX5_init_86 rfl ?_
  refine c_iconst (v := (-1)) dX5_init_87 (by decide) ?_
  refine c_pi aX5_54 dX5_init_88 al rfl (by decide) rfl ((X0_g (by decide) _).trans (by decide)) (by decide) (by decide) (by decide) ?_
  refine c_aload_n dX5_init_91 rfl ?_
  refine c_iconst (v := (-1)) dX5_init_92 (by decide) ?_
  refine c_pi aX5_58 dX5_init_93 al rfl (by decide) rfl ((X0_g (by decide) _).trans (by decide)) (by decide) (by decide) (by decide) ?_
  refine c_O (ct_close rfl (gfs_end (k := 176) (by decide))) ?_
  exact c_return dX5_init_96 rfl (by decide)
theorem c_empw2 {l : Launch} {G : ux_G} {O : List (Nat × va_E)} {n : Nat} (al : ux_al G) (h192 : lk 192 O = none) (h193 : lk 193 O = none) (hn : 193 < n) : ∀ (m j : Nat), j ≤ 6 → 6 - j < m → cx_W l G iX6_empties false (ux_rm 0 0) (cx_Z G 0 O n) 24 [some (.ref 192), some (.int (nI j))] [] ((192, .inr (6, gfs G 192 18)) :: (193, .inl (G.2.2.2 0, 376, .inl (fun a => if 4 ≤ a ∧ a < 4 + j then 20 else if 10 ≤ a ∧ a < 10 + j then 30 else 0))) :: O) n 0 := by
  have o192 : ux_or 192 < n := Nat.lt_of_le_of_lt (by decide : ux_or 192 ≤ 193) hn
  have o193 : ux_or 193 < n := Nat.lt_of_le_of_lt (by decide : ux_or 193 ≤ 193) hn
  intro m
  induction m with
  | zero => intro j _ h; exact absurd h (Nat.not_lt_zero _)
  | succ m ih =>
    intro j hj hm
    refine c_iload_n dX6_empties_24 rfl ?_
    refine c_bipush (v := nI 6) dX6_empties_25 (by decide) ?_
    refine c_icmp_ge (tgt := 57) dX6_empties_27 (by decide) (fun c => ?_) (fun c => ?_)
    · have e : j = 6 := by
        have := (nI_leI (a := 6) (b := j) (by omega) (by omega)).mp c
        omega
      subst e
      refine c_O (ct_swap (by decide)) ?_
      refine c_O (ct_close (lk_ne (by decide) h193) (en_k (k := 193) (t := 0) (N := 376) (by decide) rfl (by decide) (fun a => ?_))) ?_
      · show (if 4 ≤ a ∧ a < 10 then (20 : Int32) else if 10 ≤ a ∧ a < 16 then 30 else 0) = x0 193 a
        simp [x0]
      refine c_O (ct_close h192 (gfs_end (k := 192) (by decide))) ?_
      exact c_return dX6_empties_57 rfl (Nat.le_refl _)
    · have hlt : j < 6 := by
        rcases Nat.lt_or_ge j 6 with z | z
        · exact z
        · exact absurd ((nI_leI (a := 6) (b := j) (by omega) (by omega)).mpr z) c
      refine c_aload_n dX6_empties_30 rfl ?_
      refine c_getr (q := 193) fX6_9 dX6_empties_31 (by decide) o192 (ct_top _ _ _ _) (gfs_at (by decide) (by decide)) (by decide) ?_
      refine c_iconst (v := nI 4) dX6_empties_34 (by decide) ?_
      refine c_iload_n dX6_empties_35 rfl ?_
      refine c_iadd dX6_empties_36 ?_
      refine c_bipush (v := 20) dX6_empties_37 (by decide) ?_
      refine c_O (ct_swap (by decide)) ?_
      refine c_iast (j := 4 + j) dX6_empties_39 al (by decide) o193 (nI_add _ _) (by omega) (by decide) ?_
      refine c_O (ct_swap (by decide)) ?_
      refine c_aload_n dX6_empties_40 rfl ?_
      refine c_getr (q := 193) fX6_9 dX6_empties_41 (by decide) o192 (ct_top _ _ _ _) (gfs_at (by decide) (by decide)) (by decide) ?_
      refine c_bipush (v := nI 10) dX6_empties_44 (by decide) ?_
      refine c_iload_n dX6_empties_46 rfl ?_
      refine c_iadd dX6_empties_47 ?_
      refine c_bipush (v := 30) dX6_empties_48 (by decide) ?_
      refine c_O (ct_swap (by decide)) ?_
      refine c_iast (j := 10 + j) dX6_empties_50 al (by decide) o193 (nI_add _ _) (by omega) (by decide) ?_
      refine c_O (ct_swap (by decide)) ?_
      refine c_iinc (v := nI (j + 1)) dX6_empties_51 rfl (nI_1 _) rfl rfl rfl ?_
      refine c_goto (tgt := 24) dX6_empties_54 (by decide) ?_
      have e : upd (upd (fun a => if 4 ≤ a ∧ a < 4 + j then 20 else if 10 ≤ a ∧ a < 10 + j then 30 else 0) (4 + j) 20) (10 + j) 30 = (fun a => if 4 ≤ a ∧ a < 4 + (j + 1) then 20 else if 10 ≤ a ∧ a < 10 + (j + 1) then 30 else 0) := by
        funext a
        unfold upd
        by_cases q : a = 10 + j
        · rw [if_pos q, if_neg (by omega), if_pos (by omega)]
        · rw [if_neg q]
          by_cases q1 : a = 4 + j
          · rw [if_pos q1, if_pos (by omega)]
          · rw [if_neg q1]
            dsimp only
            by_cases q2 : 4 ≤ a ∧ a < 4 + j
            · rw [if_pos q2, if_pos (by omega)]
            · rw [if_neg q2, if_neg (show ¬ (4 ≤ a ∧ a < 4 + (j + 1)) by omega)]
              by_cases q3 : 10 ≤ a ∧ a < 10 + j
              · rw [if_pos q3, if_pos (by omega)]
              · rw [if_neg q3, if_neg (by omega)]
      rw [e]
      exact ih (j + 1) (by omega) (by omega)
theorem c_empw1 {l : Launch} {G : ux_G} {O : List (Nat × va_E)} {n : Nat} (al : ux_al G) (h192 : lk 192 O = none) (h193 : lk 193 O = none) (hn : 193 < n) : ∀ (m j : Nat), j ≤ 376 → 376 - j < m → cx_W l G iX6_empties false (ux_rm 0 0) (cx_Z G 0 O n) 2 [some (.ref 192), some (.int (nI j))] [] ((192, .inr (6, gfs G 192 18)) :: (193, .inl (G.2.2.2 0, 376, .inl (fun _ => 0))) :: O) n 0 := by
  have o192 : ux_or 192 < n := Nat.lt_of_le_of_lt (by decide : ux_or 192 ≤ 193) hn
  have o193 : ux_or 193 < n := Nat.lt_of_le_of_lt (by decide : ux_or 193 ≤ 193) hn
  intro m
  induction m with
  | zero => intro j _ h; exact absurd h (Nat.not_lt_zero _)
  | succ m ih =>
    intro j hj hm
    refine c_iload_n dX6_empties_2 rfl ?_
    refine c_sipush (v := nI 376) dX6_empties_3 (by decide) ?_
    refine c_icmp_ge (tgt := 22) dX6_empties_6 (by decide) (fun c => ?_) (fun c => ?_)
    · refine c_iconst (v := nI 0) dX6_empties_22 (by decide) ?_
      refine c_istore_n (j := 1) dX6_empties_23 rfl rfl rfl rfl ?_
      have := c_empw2 (l := l) al h192 h193 hn 7 0 (by decide) (by decide)
      have e : (fun a => if 4 ≤ a ∧ a < 4 then 20 else if 10 ≤ a ∧ a < 10 then 30 else 0) = (fun _ => 0 : Nat → Int32) := by
        funext a
        rw [if_neg (by omega), if_neg (by omega)]
      rw [show (fun a => if 4 ≤ a ∧ a < 4 + 0 then 20 else if 10 ≤ a ∧ a < 10 + 0 then 30 else 0) = (fun _ => 0 : Nat → Int32) from e] at this
      exact this
    · have hlt : j < 376 := by
        rcases Nat.lt_or_ge j 376 with z | z
        · exact z
        · exact absurd ((nI_leI (a := 376) (b := j) (by omega) (by omega)).mpr z) c
      refine c_aload_n dX6_empties_9 rfl ?_
      refine c_getr (q := 193) fX6_9 dX6_empties_10 (by decide) o192 (ct_top _ _ _ _) (gfs_at (by decide) (by decide)) (by decide) ?_
      refine c_iload_n dX6_empties_13 rfl ?_
      refine c_iconst (v := 0) dX6_empties_14 (by decide) ?_
      refine c_O (ct_swap (by decide)) ?_
      refine c_iast (j := j) dX6_empties_15 al (by decide) o193 rfl hlt (by decide) ?_
      refine c_O (ct_swap (by decide)) ?_
      refine c_iinc (v := nI (j + 1)) dX6_empties_16 rfl (nI_1 _) rfl rfl rfl ?_
      refine c_goto (tgt := 2) dX6_empties_19 (by decide) ?_
      have e : upd (fun _ => 0) j 0 = (fun _ => 0 : Nat → Int32) := by
        funext a
        unfold upd
        split <;> rfl
      rw [e]
      exact ih (j + 1) (by omega) (by omega)
theorem c_empties {l : Launch} {G : ux_G} {O : List (Nat × va_E)} {n : Nat} (al : ux_al G) (h192 : lk 192 O = none) (h193 : lk 193 O = none) (hn : 193 < n) : cx_M l G yX6_empties iX6_empties 0 0 [.ref 192] ((192, .inr (6, gfs G 192 18)) :: (193, .inl (G.2.2.2 0, 376, .inl (fun _ => 0))) :: O) n O n := by
  refine cx_ent (b := false) (L' := [some (.ref 192), none]) kX6_empties rfl (fun y => by cases y) rfl rfl rfl ?_
  refine c_iconst (v := 0) dX6_empties_0 (by decide) ?_
  refine c_istore_n (j := 1) dX6_empties_1 rfl rfl rfl rfl ?_
  exact c_empw1 al h192 h193 hn 377 0 (by decide) (by decide)
set_option maxRecDepth 100000 in
theorem c_Model {l : Launch} {G : ux_G} (al : ux_al G) : cx_M l G yX6_init iX6_init 1 716 [.ref 192] [(192, .inr (6, gfs G 192 0))] 193 [] 202 := by
  refine cx_ent (b := true) (L' := [some (.ref 192)]) kX6_init rfl (fun _ => rfl) rfl rfl rfl ?_
  refine c_aload_n dX6_init_0 rfl ?_
  refine c_obj oX6 o_in o_cd dX6_init_1 (by decide) ⟨by decide, by decide⟩ (by decide) ?_
  refine c_aload_n dX6_init_4 rfl ?_
  refine c_sipush (v := nI 376) dX6_init_5 (by decide) ?_
  refine c_sk (sk_ok (by decide) rfl (by decide)) ?_
  refine c_newa (t0 := 0) (N := 376) (k1 := 193) (du := 63) (a0 := (376, .inl (fun _ => 0))) dX6_init_8 rfl w_ai rfl (fun _ _ h => h) (fun _ => rfl) rfl (by decide) (by decide) al (by decide) (by decide) (by decide) (by decide) ?_
  refine c_O (ct_swap (by decide)) ?_
  refine c_pr (q := 193) aX6_9 dX6_init_10 al rfl (by decide) rfl (by decide) (by decide) (fun _ => rfl) (fun _ => rfl) ?_
  refine c_aload_n dX6_init_13 rfl ?_
  refine c_sipush (v := nI 376) dX6_init_14 (by decide) ?_
  refine c_newa (t0 := 0) (N := 376) (k1 := 194) (du := 63) (a0 := (376, .inl (fun _ => 0))) dX6_init_17 rfl w_ai rfl (fun _ _ h => h) (fun _ => rfl) rfl (by decide) (by decide) al (by decide) (by decide) (by decide) (by decide) ?_
  refine c_O (ct_close (lk_ne (by decide) (lk_ne (by decide) rfl)) (en_k (by decide) rfl (by decide) (x0_z (by decide)))) ?_
  refine c_pr (q := 194) aX6_13 dX6_init_19 al rfl (by decide) rfl (by decide) (by decide) (fun _ => rfl) (fun _ => rfl) ?_
  refine c_aload_n dX6_init_22 rfl ?_
  refine c_sipush (v := nI 376) dX6_init_23 (by decide) ?_
  refine c_sk (sk_ok (by decide) rfl (by decide)) ?_
  refine c_newa (t0 := 0) (N := 376) (k1 := 195) (du := 63) (a0 := (376, .inl (fun _ => 0))) dX6_init_26 rfl w_ai rfl (fun _ _ h => h) (fun _ => rfl) rfl (by decide) (by decide) al (by decide) (by decide) (by decide) (by decide) ?_
  refine c_O (ct_close (lk_ne (by decide) (lk_ne (by decide) rfl)) (en_k (by decide) rfl (by decide) (x0_z (by decide)))) ?_
  refine c_pr (q := 195) aX6_16 dX6_init_28 al rfl (by decide) rfl (by decide) (by decide) (fun _ => rfl) (fun _ => rfl) ?_
  refine c_aload_n dX6_init_31 rfl ?_
  refine c_sipush (v := nI 3008) dX6_init_32 (by decide) ?_
  refine c_newa (t0 := 0) (N := 3008) (k1 := 196) (du := 502) (a0 := (3008, .inl (fun _ => 0))) dX6_init_35 rfl w_ai rfl (fun _ _ h => h) (fun _ => rfl) rfl (by decide) (by decide) al (by decide) (by decide) (by decide) (by decide) ?_
  refine c_O (ct_close (lk_ne (by decide) (lk_ne (by decide) rfl)) (en_k (by decide) rfl (by decide) (x0_z (by decide)))) ?_
  refine c_pr (q := 196) aX6_19 dX6_init_37 al rfl (by decide) rfl (by decide) (by decide) (fun _ => rfl) (fun _ => rfl) ?_
  refine c_aload_n dX6_init_40 rfl ?_
  refine c_bipush (v := nI 70) dX6_init_41 (by decide) ?_
  refine c_sk (sk_ok (by decide) rfl (by decide)) ?_
  refine c_newa (t0 := 0) (N := 70) (k1 := 197) (du := 12) (a0 := (70, .inl (fun _ => 0))) dX6_init_43 rfl w_ai rfl (fun _ _ h => h) (fun _ => rfl) rfl (by decide) (by decide) al (by decide) (by decide) (by decide) (by decide) ?_
  refine c_O (ct_close (lk_ne (by decide) (lk_ne (by decide) rfl)) (en_k (by decide) rfl (by decide) (x0_z (by decide)))) ?_
  refine c_pr (q := 197) aX6_22 dX6_init_45 al rfl (by decide) rfl (by decide) (by decide) (fun _ => rfl) (fun _ => rfl) ?_
  refine c_aload_n dX6_init_48 rfl ?_
  refine c_iconst (v := (-1)) dX6_init_49 (by decide) ?_
  refine c_sk (sk_ok (by decide) rfl (by decide)) ?_
  refine c_pi aX6_25 dX6_init_50 al rfl (by decide) rfl ((X0_g (by decide) _).trans (by decide)) (by decide) (by decide) (by decide) ?_
  refine c_aload_n dX6_init_53 rfl ?_
  refine c_bipush (v := nI 40) dX6_init_54 (by decide) ?_
  refine c_sk (sk_ok (by decide) rfl (by decide)) ?_
  refine c_sk (sk_ok (by decide) rfl (by decide)) ?_
  refine c_newa (t0 := 0) (N := 40) (k1 := 198) (du := 7) (a0 := (40, .inl (fun _ => 0))) dX6_init_56 rfl w_ai rfl (fun _ _ h => h) (fun _ => rfl) rfl (by decide) (by decide) al (by decide) (by decide) (by decide) (by decide) ?_
  refine c_O (ct_close (lk_ne (by decide) (lk_ne (by decide) rfl)) (en_k (by decide) rfl (by decide) (x0_z (by decide)))) ?_
  refine c_pr (q := 198) aX6_29 dX6_init_58 al rfl (by decide) rfl (by decide) (by decide) (fun _ => rfl) (fun _ => rfl) ?_
  refine c_aload_n dX6_init_61 rfl ?_
  refine c_iconst (v := nI 4) dX6_init_62 (by decide) ?_
  refine c_newa (t0 := 0) (N := 4) (k1 := 199) (du := 1) (a0 := (4, .inl (fun _ => 0))) dX6_init_63 rfl w_ai rfl (fun _ _ h => h) (fun _ => rfl) rfl (by decide) (by decide) al (by decide) (by decide) (by decide) (by decide) ?_
  refine c_O (ct_close (lk_ne (by decide) (lk_ne (by decide) rfl)) (en_k (by decide) rfl (by decide) (x0_z (by decide)))) ?_
  refine c_pr (q := 199) aX6_32 dX6_init_65 al rfl (by decide) rfl (by decide) (by decide) (fun _ => rfl) (fun _ => rfl) ?_
  refine c_aload_n dX6_init_68 rfl ?_
  refine c_iconst (v := nI 4) dX6_init_69 (by decide) ?_
  refine c_newa (t0 := 0) (N := 4) (k1 := 200) (du := 1) (a0 := (4, .inl (fun _ => 0))) dX6_init_70 rfl w_ai rfl (fun _ _ h => h) (fun _ => rfl) rfl (by decide) (by decide) al (by decide) (by decide) (by decide) (by decide) ?_
  refine c_O (ct_close (lk_ne (by decide) (lk_ne (by decide) rfl)) (en_k (by decide) rfl (by decide) (x0_z (by decide)))) ?_
  refine c_pr (q := 200) aX6_35 dX6_init_72 al rfl (by decide) rfl (by decide) (by decide) (fun _ => rfl) (fun _ => rfl) ?_
  refine c_aload_n dX6_init_75 rfl ?_
  refine c_bipush (v := nI 20) dX6_init_76 (by decide) ?_
  refine c_sk (sk_ok (by decide) rfl (by decide)) ?_
  refine c_sk (sk_ok (by decide) rfl (by decide)) ?_
  refine c_newa (t0 := 0) (N := 20) (k1 := 201) (du := 4) (a0 := (20, .inl (fun _ => 0))) dX6_init_78 rfl w_ai rfl (fun _ _ h => h) (fun _ => rfl) rfl (by decide) (by decide) al (by decide) (by decide) (by decide) (by decide) ?_
  refine c_O (ct_close (lk_ne (by decide) (lk_ne (by decide) rfl)) (en_k (by decide) rfl (by decide) (x0_z (by decide)))) ?_
  refine c_pr (q := 201) aX6_38 dX6_init_80 al rfl (by decide) rfl (by decide) (by decide) (fun _ => rfl) (fun _ => rfl) ?_
  refine c_aload_n dX6_init_83 rfl ?_
  refine c_callV lX6_41 kX6_empties (c_empties al rfl rfl (by decide)) dX6_init_84 rfl (by decide) (by decide) (ct_top _ _ _ _) rfl (by decide) (by decide) ?_
  exact c_return dX6_init_87 rfl (by decide)
