/-! THE CLASS: the line of a lesson; append. -/
theorem x_nar : ∀ c, c < 128 → vp_nar .char (nI c) = nI c := by decide +kernel
theorem x_nar2 : ∀ c, c < 128 → narrow .char (.int (nI c)) = .int (nI c) := by decide +kernel
theorem x_i2c : ∀ c, c < 128 → ((nI c).toUInt32 % 65536).toInt32 = nI c := by decide +kernel
def rL (L : List Nat) (h : ux_H) : Prop := xgi h 190 1 = nI L.length ∧ ∀ j, j < L.length → ∀ v, L[j]? = some v → xgi h 191 j = nI v
def x_frL (h h' : ux_H) : Prop := ∀ k, k ≠ 190 → k ≠ 191 → ∀ j, h' k j = h k j
theorem x_frL_rf (h : ux_H) : x_frL h h := fun _ _ _ _ => rfl
theorem x_frL_tr {h h1 h2 : ux_H} (a : x_frL h h1) (b : x_frL h1 h2) : x_frL h h2 := fun k hk hl j => (b k hk hl j).trans (a k hk hl j)
theorem rC_frL {A : Ab} {h h' : ux_H} (hC : rC 0 A h) (hF : x_frL h h') : rC 0 A h' := rC_ne hC fun a _ h2 b => hF a (by omega) (by omega) b
/-- the signs of a lesson's line -/
def s_line (A : Ab) (i : Nat) : List Nat := [108] ++ (if 10 ≤ aF A 8 i then [48 + (aF A 8 i / 10).toNat] else []) ++ [48 + (aF A 8 i % 10).toNat] ++ [99] ++ [48 + (aF A 9 i).toNat] ++ [115] ++ [48 + (aF A 10 i).toNat] ++ [112] ++ [48 + (aF A 11 i).toNat] ++ [114] ++ [48 + (aF A 12 i).toNat] ++ [59]
theorem rL_add {L : List Nat} {h : ux_H} (hL : rL L h) (c : Nat) : rL (L ++ [c]) (xsi (xsi h 191 L.length (nI c)) 190 1 (nI (L.length + 1))) := by
  obtain ⟨a, b⟩ := hL
  refine ⟨by rw [xgi_si, List.length_append]; rfl, fun j hj v hv => ?_⟩
  rw [xgi_ne _ _ _ _ _ _ (by omega), xgi_sif]
  by_cases e : j = L.length
  · subst e
    rw [if_pos ⟨rfl, rfl⟩]
    have : c = v := by simpa using hv
    rw [this]
  · rw [if_neg (by omega)]
    rw [List.length_append, List.length_singleton] at hj
    rw [List.getElem?_append_left (by omega)] at hv
    exact b j (by omega) v hv
set_option maxRecDepth 100000 in
theorem mX2_add {l : Launch} {G : ux_G} {h : ux_H} {L : List Nat} {c : Nat} (hL : rL L h) (hl : L.length < 12) (hc : c < 128) : ux_M l G yX2_add iX2_add 1 0 [.ref 190, .int (nI c)] h (fun v h' => v = none ∧ rL (L ++ [c]) h' ∧ x_frL h h') (fun _ _ => False) := by
  refine ux_ent (L' := [some (.ref 190), some (.int (nI c))]) kX2_add rfl rfl rfl rfl ?_
  refine g_aload_n dX2_add_0 rfl ?_
  refine g_geti fX2_15 dX2_add_1 rfl rfl ?_
  refine g_top hL.1 ?_
  refine g_if_lt (tgt := 39) dX2_add_4 (by decide) (fun c4 => ?_) (fun c4 => ?_)
  · exact absurd c4 (nI_pos (by omega))
  · refine g_aload_n dX2_add_7 rfl ?_
    refine g_geti fX2_15 dX2_add_8 rfl rfl ?_
    refine g_top hL.1 ?_
    refine g_aload_n dX2_add_11 rfl ?_
    refine g_getr (q := 191) fX2_9 dX2_add_12 rfl rfl rfl ?_
    refine g_alen (v := nI 12) dX2_add_15 (Or.inr (Or.inl rfl)) rfl ?_
    refine g_icmp_ge (tgt := 39) dX2_add_16 (by decide) (fun c16 => ?_) (fun c16 => ?_)
    · exact absurd c16 (nI_ge (show L.length < 12 from hl) (by decide))
    · refine g_aload_n dX2_add_19 rfl ?_
      refine g_getr (q := 191) fX2_9 dX2_add_20 rfl rfl rfl ?_
      refine g_aload_n dX2_add_23 rfl ?_
      refine g_geti fX2_15 dX2_add_24 rfl rfl ?_
      refine g_top hL.1 ?_
      refine g_iload_n dX2_add_27 rfl ?_
      refine g_cast dX2_add_28 rfl (show L.length < 12 from hl) rfl (x_nar c hc) ?_
      refine g_aload_n dX2_add_29 rfl ?_
      refine g_dup dX2_add_30 rfl ?_
      refine g_geti fX2_15 dX2_add_31 rfl rfl ?_
      refine g_top (y := nI L.length) (by rw [xgi_ne _ _ _ _ _ _ (by omega)]; exact hL.1) ?_
      refine g_iconst (v := 1) dX2_add_34 (by decide) ?_
      refine g_iadd dX2_add_35 ?_
      refine g_top (nI_1 _) ?_
      refine g_puti pX2_15 dX2_add_36 rfl rfl ?_
      refine g_return dX2_add_39 rfl (by decide) ?_
      refine ⟨rfl, rL_add hL c, fun k h1 h2 j => ?_⟩
      unfold xsi xsv
      rw [if_neg (by omega), if_neg (by omega)]
set_option maxRecDepth 100000 in
theorem mX2_addDigit {l : Launch} {G : ux_G} {h : ux_H} {L : List Nat} {d : Nat} (hL : rL L h) (hl : L.length < 12) (hd : d < 10) : ux_M l G yX2_addDigit iX2_addDigit 2 0 [.ref 190, .int (nI d)] h (fun v h' => v = none ∧ rL (L ++ [48 + d]) h' ∧ x_frL h h') (fun _ _ => False) := by
  refine ux_ent (L' := [some (.ref 190), some (.int (nI d))]) kX2_addDigit rfl rfl rfl rfl ?_
  refine g_aload_n dX2_addDigit_0 rfl ?_
  refine g_bipush (v := 48) dX2_addDigit_1 (by decide) ?_
  refine g_iload_n dX2_addDigit_3 rfl ?_
  refine g_iadd dX2_addDigit_4 ?_
  refine g_top (y := nI (48 + d)) (by rw [show (48 : Int32) = nI 48 by decide, nI_add]) ?_
  refine g_i2c dX2_addDigit_5 (x_i2c (48 + d) (by omega)) ?_
  refine q_V (u' := 0) lX2_29 kX2_add (mX2_add hL hl (by omega)) dX2_addDigit_6 rfl rfl rfl rfl rfl rfl rfl rfl (fun v h6 hq => ?_) (fun _ _ q => q.elim)
  obtain ⟨rfl, hL, hF9⟩ := hq
  dsimp only [Option.toList, List.cons_append, List.nil_append]
  refine g_return dX2_addDigit_9 rfl (by decide) ?_
  exact ⟨rfl, hL, hF9⟩
set_option maxRecDepth 100000 in
theorem mX2_writeLesson {l : Launch} {G : ux_G} {h : ux_H} {i : Nat} {A : Ab} {P : Nat} (hC : rC 0 A h) (hI : Inv P A) (hi : i < A.2.1) : ux_M l G yX2_writeLesson iX2_writeLesson 4 0 [.ref 190, .ref 0, .int (nI i)] h (fun v h' => v = none ∧ rL (s_line A i) h' ∧ x_frL h h') (fun _ _ => False) := by
  refine ux_ent (L' := [some (.ref 190), some (.ref 0), some (.int (nI i)), none]) kX2_writeLesson rfl rfl rfl rfl ?_
  obtain ⟨i1, i2, i3, i4, i5, i6⟩ := id hI
  have il := i6 i hi
  refine g_aload_n dX2_writeLesson_0 rfl ?_
  refine g_getr (q := 8) fX2_19 dX2_writeLesson_1 rfl rfl rfl ?_
  refine g_iload_n dX2_writeLesson_4 rfl ?_
  refine f1_SN (u' := 0) lX2_25 kX5_at (mA_l (f := 8) hC i2 (by assumption) rfl) dX2_writeLesson_5 rfl rfl rfl rfl rfl rfl ?_
  refine s_i (i := 3) dX2_writeLesson_8 rfl rfl rfl rfl ?_
  dsimp only [List.set]
  refine g_aload_n dX2_writeLesson_9 rfl ?_
  refine g_iconst (v := 0) dX2_writeLesson_10 (by decide) ?_
  refine g_puti pX2_15 dX2_writeLesson_11 rfl rfl ?_
  have hL : rL [] (xsi h 190 1 0) := ⟨xgi_si _ _ _ _, fun j hj => absurd hj (Nat.not_lt_zero _)⟩
  have hF : x_frL h (xsi h 190 1 0) := fun k h1 h2 j => by unfold xsi xsv; rw [if_neg (by omega)]
  have hC := rC_frL hC hF
  refine g_aload_n dX2_writeLesson_14 rfl ?_
  refine g_bipush (v := 108) dX2_writeLesson_15 (by decide) ?_
  refine q_V (u' := 0) lX2_29 kX2_add (mX2_add hL (Nat.le_of_ble_eq_true rfl) (by decide)) dX2_writeLesson_17 rfl rfl rfl rfl rfl rfl rfl rfl (fun v h17 hq => ?_) (fun _ _ q => q.elim)
  obtain ⟨rfl, hL, hF9⟩ := hq
  have hC := rC_frL hC hF9
  have hF := x_frL_tr hF hF9
  dsimp only [Option.toList, List.cons_append, List.nil_append]
  refine g_iload_n dX2_writeLesson_20 rfl ?_
  refine g_bipush (v := 10) dX2_writeLesson_21 (by decide) ?_
  refine g_icmp_lt (tgt := 34) dX2_writeLesson_23 (by decide) (fun c23 => ?_) (fun c23 => ?_)
  · rw [show (10 : Int32) = iI 10 by decide, iI_lt (by omega) (by omega) (by omega) (by omega)] at c23
    refine g_aload_n dX2_writeLesson_34 rfl ?_
    refine g_iload_n dX2_writeLesson_35 rfl ?_
    refine g_bipush (v := 10) dX2_writeLesson_36 (by decide) ?_
    refine g_irem dX2_writeLesson_38 (by decide) ?_
    refine g_top (y := nI (aF A 8 i % 10).toNat) (by rw [show (10 : Int32) = iI 10 by decide, iI_rem (by omega) (by omega) (by omega) (by omega)]; exact iI_get (by omega) (by omega)) ?_
    refine q_V (u' := 0) lX2_33 kX2_addDigit (mX2_addDigit hL (Nat.le_of_ble_eq_true rfl) (by omega)) dX2_writeLesson_39 rfl rfl rfl rfl rfl rfl rfl rfl (fun v h39 hq => ?_) (fun _ _ q => q.elim)
    obtain ⟨rfl, hL, hF9⟩ := hq
    have hC := rC_frL hC hF9
    have hF := x_frL_tr hF hF9
    dsimp only [Option.toList, List.cons_append, List.nil_append]
    refine g_aload_n dX2_writeLesson_42 rfl ?_
    refine g_bipush (v := 99) dX2_writeLesson_43 (by decide) ?_
    refine q_V (u' := 0) lX2_29 kX2_add (mX2_add hL (Nat.le_of_ble_eq_true rfl) (by decide)) dX2_writeLesson_45 rfl rfl rfl rfl rfl rfl rfl rfl (fun v h45 hq => ?_) (fun _ _ q => q.elim)
    obtain ⟨rfl, hL, hF9⟩ := hq
    have hC := rC_frL hC hF9
    have hF := x_frL_tr hF hF9
    dsimp only [Option.toList, List.cons_append, List.nil_append]
    refine g_aload_n dX2_writeLesson_48 rfl ?_
    refine g_aload_n dX2_writeLesson_49 rfl ?_
    refine g_getr (q := 9) fX2_37 dX2_writeLesson_50 rfl rfl rfl ?_
    refine g_iload_n dX2_writeLesson_53 rfl ?_
    refine f1_SN (u' := 0) lX2_25 kX5_at (mA_l (f := 9) hC i2 (by assumption) rfl) dX2_writeLesson_54 rfl rfl rfl rfl rfl rfl ?_
    refine g_top (y := nI (aF A 9 i).toNat) (iI_get (by omega) (by omega)) ?_
    refine q_V (u' := 0) lX2_33 kX2_addDigit (mX2_addDigit hL (Nat.le_of_ble_eq_true rfl) (by omega)) dX2_writeLesson_57 rfl rfl rfl rfl rfl rfl rfl rfl (fun v h57 hq => ?_) (fun _ _ q => q.elim)
    obtain ⟨rfl, hL, hF9⟩ := hq
    have hC := rC_frL hC hF9
    have hF := x_frL_tr hF hF9
    dsimp only [Option.toList, List.cons_append, List.nil_append]
    refine g_aload_n dX2_writeLesson_60 rfl ?_
    refine g_bipush (v := 115) dX2_writeLesson_61 (by decide) ?_
    refine q_V (u' := 0) lX2_29 kX2_add (mX2_add hL (Nat.le_of_ble_eq_true rfl) (by decide)) dX2_writeLesson_63 rfl rfl rfl rfl rfl rfl rfl rfl (fun v h63 hq => ?_) (fun _ _ q => q.elim)
    obtain ⟨rfl, hL, hF9⟩ := hq
    have hC := rC_frL hC hF9
    have hF := x_frL_tr hF hF9
    dsimp only [Option.toList, List.cons_append, List.nil_append]
    refine g_aload_n dX2_writeLesson_66 rfl ?_
    refine g_aload_n dX2_writeLesson_67 rfl ?_
    refine g_getr (q := 10) fX2_40 dX2_writeLesson_68 rfl rfl rfl ?_
    refine g_iload_n dX2_writeLesson_71 rfl ?_
    refine f1_SN (u' := 0) lX2_25 kX5_at (mA_l (f := 10) hC i2 (by assumption) rfl) dX2_writeLesson_72 rfl rfl rfl rfl rfl rfl ?_
    refine g_top (y := nI (aF A 10 i).toNat) (iI_get (by omega) (by omega)) ?_
    refine q_V (u' := 0) lX2_33 kX2_addDigit (mX2_addDigit hL (Nat.le_of_ble_eq_true rfl) (by omega)) dX2_writeLesson_75 rfl rfl rfl rfl rfl rfl rfl rfl (fun v h75 hq => ?_) (fun _ _ q => q.elim)
    obtain ⟨rfl, hL, hF9⟩ := hq
    have hC := rC_frL hC hF9
    have hF := x_frL_tr hF hF9
    dsimp only [Option.toList, List.cons_append, List.nil_append]
    refine g_aload_n dX2_writeLesson_78 rfl ?_
    refine g_bipush (v := 112) dX2_writeLesson_79 (by decide) ?_
    refine q_V (u' := 0) lX2_29 kX2_add (mX2_add hL (Nat.le_of_ble_eq_true rfl) (by decide)) dX2_writeLesson_81 rfl rfl rfl rfl rfl rfl rfl rfl (fun v h81 hq => ?_) (fun _ _ q => q.elim)
    obtain ⟨rfl, hL, hF9⟩ := hq
    have hC := rC_frL hC hF9
    have hF := x_frL_tr hF hF9
    dsimp only [Option.toList, List.cons_append, List.nil_append]
    refine g_aload_n dX2_writeLesson_84 rfl ?_
    refine g_aload_n dX2_writeLesson_85 rfl ?_
    refine g_getr (q := 11) fX2_43 dX2_writeLesson_86 rfl rfl rfl ?_
    refine g_iload_n dX2_writeLesson_89 rfl ?_
    refine f1_SN (u' := 0) lX2_25 kX5_at (mA_l (f := 11) hC i2 (by assumption) rfl) dX2_writeLesson_90 rfl rfl rfl rfl rfl rfl ?_
    refine g_top (y := nI (aF A 11 i).toNat) (iI_get (by omega) (by omega)) ?_
    refine q_V (u' := 0) lX2_33 kX2_addDigit (mX2_addDigit hL (Nat.le_of_ble_eq_true rfl) (by omega)) dX2_writeLesson_93 rfl rfl rfl rfl rfl rfl rfl rfl (fun v h93 hq => ?_) (fun _ _ q => q.elim)
    obtain ⟨rfl, hL, hF9⟩ := hq
    have hC := rC_frL hC hF9
    have hF := x_frL_tr hF hF9
    dsimp only [Option.toList, List.cons_append, List.nil_append]
    refine g_aload_n dX2_writeLesson_96 rfl ?_
    refine g_bipush (v := 114) dX2_writeLesson_97 (by decide) ?_
    refine q_V (u' := 0) lX2_29 kX2_add (mX2_add hL (Nat.le_of_ble_eq_true rfl) (by decide)) dX2_writeLesson_99 rfl rfl rfl rfl rfl rfl rfl rfl (fun v h99 hq => ?_) (fun _ _ q => q.elim)
    obtain ⟨rfl, hL, hF9⟩ := hq
    have hC := rC_frL hC hF9
    have hF := x_frL_tr hF hF9
    dsimp only [Option.toList, List.cons_append, List.nil_append]
    refine g_aload_n dX2_writeLesson_102 rfl ?_
    refine g_aload_n dX2_writeLesson_103 rfl ?_
    refine g_getr (q := 12) fX2_46 dX2_writeLesson_104 rfl rfl rfl ?_
    refine g_iload_n dX2_writeLesson_107 rfl ?_
    refine f1_SN (u' := 0) lX2_25 kX5_at (mA_l (f := 12) hC i2 (by assumption) rfl) dX2_writeLesson_108 rfl rfl rfl rfl rfl rfl ?_
    refine g_top (y := nI (aF A 12 i).toNat) (iI_get (by omega) (by omega)) ?_
    refine q_V (u' := 0) lX2_33 kX2_addDigit (mX2_addDigit hL (Nat.le_of_ble_eq_true rfl) (by omega)) dX2_writeLesson_111 rfl rfl rfl rfl rfl rfl rfl rfl (fun v h111 hq => ?_) (fun _ _ q => q.elim)
    obtain ⟨rfl, hL, hF9⟩ := hq
    have hC := rC_frL hC hF9
    have hF := x_frL_tr hF hF9
    dsimp only [Option.toList, List.cons_append, List.nil_append]
    refine g_aload_n dX2_writeLesson_114 rfl ?_
    refine g_bipush (v := 59) dX2_writeLesson_115 (by decide) ?_
    refine q_V (u' := 0) lX2_29 kX2_add (mX2_add hL (Nat.le_of_ble_eq_true rfl) (by decide)) dX2_writeLesson_117 rfl rfl rfl rfl rfl rfl rfl rfl (fun v h117 hq => ?_) (fun _ _ q => q.elim)
    obtain ⟨rfl, hL, hF9⟩ := hq
    have hC := rC_frL hC hF9
    have hF := x_frL_tr hF hF9
    dsimp only [Option.toList, List.cons_append, List.nil_append]
    refine g_return dX2_writeLesson_120 rfl (by decide) ?_
    refine ⟨rfl, ?_, hF⟩
    unfold s_line
    first
    | (rw [if_pos (by omega)]; exact hL)
    | (rw [if_neg (by omega)]; exact hL)
  · rw [show (10 : Int32) = iI 10 by decide, iI_lt (by omega) (by omega) (by omega) (by omega)] at c23
    refine g_aload_n dX2_writeLesson_26 rfl ?_
    refine g_iload_n dX2_writeLesson_27 rfl ?_
    refine g_bipush (v := 10) dX2_writeLesson_28 (by decide) ?_
    refine g_idiv dX2_writeLesson_30 (by decide) ?_
    refine g_top (y := nI (aF A 8 i / 10).toNat) (by rw [show (10 : Int32) = iI 10 by decide, iI_div (by omega) (by omega) (by omega) (by omega), Int.tdiv_eq_ediv_of_nonneg (by omega)]; exact iI_get (by omega) (by omega)) ?_
    refine q_V (u' := 0) lX2_33 kX2_addDigit (mX2_addDigit hL (Nat.le_of_ble_eq_true rfl) (by omega)) dX2_writeLesson_31 rfl rfl rfl rfl rfl rfl rfl rfl (fun v h31 hq => ?_) (fun _ _ q => q.elim)
    obtain ⟨rfl, hL, hF9⟩ := hq
    have hC := rC_frL hC hF9
    have hF := x_frL_tr hF hF9
    dsimp only [Option.toList, List.cons_append, List.nil_append]
    refine g_aload_n dX2_writeLesson_34 rfl ?_
    refine g_iload_n dX2_writeLesson_35 rfl ?_
    refine g_bipush (v := 10) dX2_writeLesson_36 (by decide) ?_
    refine g_irem dX2_writeLesson_38 (by decide) ?_
    refine g_top (y := nI (aF A 8 i % 10).toNat) (by rw [show (10 : Int32) = iI 10 by decide, iI_rem (by omega) (by omega) (by omega) (by omega)]; exact iI_get (by omega) (by omega)) ?_
    refine q_V (u' := 0) lX2_33 kX2_addDigit (mX2_addDigit hL (Nat.le_of_ble_eq_true rfl) (by omega)) dX2_writeLesson_39 rfl rfl rfl rfl rfl rfl rfl rfl (fun v h39 hq => ?_) (fun _ _ q => q.elim)
    obtain ⟨rfl, hL, hF9⟩ := hq
    have hC := rC_frL hC hF9
    have hF := x_frL_tr hF hF9
    dsimp only [Option.toList, List.cons_append, List.nil_append]
    refine g_aload_n dX2_writeLesson_42 rfl ?_
    refine g_bipush (v := 99) dX2_writeLesson_43 (by decide) ?_
    refine q_V (u' := 0) lX2_29 kX2_add (mX2_add hL (Nat.le_of_ble_eq_true rfl) (by decide)) dX2_writeLesson_45 rfl rfl rfl rfl rfl rfl rfl rfl (fun v h45 hq => ?_) (fun _ _ q => q.elim)
    obtain ⟨rfl, hL, hF9⟩ := hq
    have hC := rC_frL hC hF9
    have hF := x_frL_tr hF hF9
    dsimp only [Option.toList, List.cons_append, List.nil_append]
    refine g_aload_n dX2_writeLesson_48 rfl ?_
    refine g_aload_n dX2_writeLesson_49 rfl ?_
    refine g_getr (q := 9) fX2_37 dX2_writeLesson_50 rfl rfl rfl ?_
    refine g_iload_n dX2_writeLesson_53 rfl ?_
    refine f1_SN (u' := 0) lX2_25 kX5_at (mA_l (f := 9) hC i2 (by assumption) rfl) dX2_writeLesson_54 rfl rfl rfl rfl rfl rfl ?_
    refine g_top (y := nI (aF A 9 i).toNat) (iI_get (by omega) (by omega)) ?_
    refine q_V (u' := 0) lX2_33 kX2_addDigit (mX2_addDigit hL (Nat.le_of_ble_eq_true rfl) (by omega)) dX2_writeLesson_57 rfl rfl rfl rfl rfl rfl rfl rfl (fun v h57 hq => ?_) (fun _ _ q => q.elim)
    obtain ⟨rfl, hL, hF9⟩ := hq
    have hC := rC_frL hC hF9
    have hF := x_frL_tr hF hF9
    dsimp only [Option.toList, List.cons_append, List.nil_append]
    refine g_aload_n dX2_writeLesson_60 rfl ?_
    refine g_bipush (v := 115) dX2_writeLesson_61 (by decide) ?_
    refine q_V (u' := 0) lX2_29 kX2_add (mX2_add hL (Nat.le_of_ble_eq_true rfl) (by decide)) dX2_writeLesson_63 rfl rfl rfl rfl rfl rfl rfl rfl (fun v h63 hq => ?_) (fun _ _ q => q.elim)
    obtain ⟨rfl, hL, hF9⟩ := hq
    have hC := rC_frL hC hF9
    have hF := x_frL_tr hF hF9
    dsimp only [Option.toList, List.cons_append, List.nil_append]
    refine g_aload_n dX2_writeLesson_66 rfl ?_
    refine g_aload_n dX2_writeLesson_67 rfl ?_
    refine g_getr (q := 10) fX2_40 dX2_writeLesson_68 rfl rfl rfl ?_
    refine g_iload_n dX2_writeLesson_71 rfl ?_
    refine f1_SN (u' := 0) lX2_25 kX5_at (mA_l (f := 10) hC i2 (by assumption) rfl) dX2_writeLesson_72 rfl rfl rfl rfl rfl rfl ?_
    refine g_top (y := nI (aF A 10 i).toNat) (iI_get (by omega) (by omega)) ?_
    refine q_V (u' := 0) lX2_33 kX2_addDigit (mX2_addDigit hL (Nat.le_of_ble_eq_true rfl) (by omega)) dX2_writeLesson_75 rfl rfl rfl rfl rfl rfl rfl rfl (fun v h75 hq => ?_) (fun _ _ q => q.elim)
    obtain ⟨rfl, hL, hF9⟩ := hq
    have hC := rC_frL hC hF9
    have hF := x_frL_tr hF hF9
    dsimp only [Option.toList, List.cons_append, List.nil_append]
    refine g_aload_n dX2_writeLesson_78 rfl ?_
    refine g_bipush (v := 112) dX2_writeLesson_79 (by decide) ?_
    refine q_V (u' := 0) lX2_29 kX2_add (mX2_add hL (Nat.le_of_ble_eq_true rfl) (by decide)) dX2_writeLesson_81 rfl rfl rfl rfl rfl rfl rfl rfl (fun v h81 hq => ?_) (fun _ _ q => q.elim)
    obtain ⟨rfl, hL, hF9⟩ := hq
    have hC := rC_frL hC hF9
    have hF := x_frL_tr hF hF9
    dsimp only [Option.toList, List.cons_append, List.nil_append]
    refine g_aload_n dX2_writeLesson_84 rfl ?_
    refine g_aload_n dX2_writeLesson_85 rfl ?_
    refine g_getr (q := 11) fX2_43 dX2_writeLesson_86 rfl rfl rfl ?_
    refine g_iload_n dX2_writeLesson_89 rfl ?_
    refine f1_SN (u' := 0) lX2_25 kX5_at (mA_l (f := 11) hC i2 (by assumption) rfl) dX2_writeLesson_90 rfl rfl rfl rfl rfl rfl ?_
    refine g_top (y := nI (aF A 11 i).toNat) (iI_get (by omega) (by omega)) ?_
    refine q_V (u' := 0) lX2_33 kX2_addDigit (mX2_addDigit hL (Nat.le_of_ble_eq_true rfl) (by omega)) dX2_writeLesson_93 rfl rfl rfl rfl rfl rfl rfl rfl (fun v h93 hq => ?_) (fun _ _ q => q.elim)
    obtain ⟨rfl, hL, hF9⟩ := hq
    have hC := rC_frL hC hF9
    have hF := x_frL_tr hF hF9
    dsimp only [Option.toList, List.cons_append, List.nil_append]
    refine g_aload_n dX2_writeLesson_96 rfl ?_
    refine g_bipush (v := 114) dX2_writeLesson_97 (by decide) ?_
    refine q_V (u' := 0) lX2_29 kX2_add (mX2_add hL (Nat.le_of_ble_eq_true rfl) (by decide)) dX2_writeLesson_99 rfl rfl rfl rfl rfl rfl rfl rfl (fun v h99 hq => ?_) (fun _ _ q => q.elim)
    obtain ⟨rfl, hL, hF9⟩ := hq
    have hC := rC_frL hC hF9
    have hF := x_frL_tr hF hF9
    dsimp only [Option.toList, List.cons_append, List.nil_append]
    refine g_aload_n dX2_writeLesson_102 rfl ?_
    refine g_aload_n dX2_writeLesson_103 rfl ?_
    refine g_getr (q := 12) fX2_46 dX2_writeLesson_104 rfl rfl rfl ?_
    refine g_iload_n dX2_writeLesson_107 rfl ?_
    refine f1_SN (u' := 0) lX2_25 kX5_at (mA_l (f := 12) hC i2 (by assumption) rfl) dX2_writeLesson_108 rfl rfl rfl rfl rfl rfl ?_
    refine g_top (y := nI (aF A 12 i).toNat) (iI_get (by omega) (by omega)) ?_
    refine q_V (u' := 0) lX2_33 kX2_addDigit (mX2_addDigit hL (Nat.le_of_ble_eq_true rfl) (by omega)) dX2_writeLesson_111 rfl rfl rfl rfl rfl rfl rfl rfl (fun v h111 hq => ?_) (fun _ _ q => q.elim)
    obtain ⟨rfl, hL, hF9⟩ := hq
    have hC := rC_frL hC hF9
    have hF := x_frL_tr hF hF9
    dsimp only [Option.toList, List.cons_append, List.nil_append]
    refine g_aload_n dX2_writeLesson_114 rfl ?_
    refine g_bipush (v := 59) dX2_writeLesson_115 (by decide) ?_
    refine q_V (u' := 0) lX2_29 kX2_add (mX2_add hL (Nat.le_of_ble_eq_true rfl) (by decide)) dX2_writeLesson_117 rfl rfl rfl rfl rfl rfl rfl rfl (fun v h117 hq => ?_) (fun _ _ q => q.elim)
    obtain ⟨rfl, hL, hF9⟩ := hq
    have hC := rC_frL hC hF9
    have hF := x_frL_tr hF hF9
    dsimp only [Option.toList, List.cons_append, List.nil_append]
    refine g_return dX2_writeLesson_120 rfl (by decide) ?_
    refine ⟨rfl, ?_, hF⟩
    unfold s_line
    first
    | (rw [if_pos (by omega)]; exact hL)
    | (rw [if_neg (by omega)]; exact hL)
def k_describe (A : Ab) (a b : Int) : Nat := if ¬ (0 ≤ a ∧ a < A.2.1) then 1 else if b = -1 then 0 else if ¬ (0 ≤ b ∧ b < (s_line A a.toNat).length) then 2 else 0
def r_describe (A : Ab) (a b : Int) : Int := if b = -1 then (s_line A a.toNat).length else ((s_line A a.toNat)[b.toNat]?.getD 0 : Nat)
theorem s_line_len (A : Ab) (i : Nat) : (s_line A i).length ≤ 12 ∧ 11 ≤ (s_line A i).length := by
  unfold s_line
  split <;> exact ⟨Nat.le_of_ble_eq_true rfl, Nat.le_of_ble_eq_true rfl⟩
theorem s_line_c {P : Nat} {A : Ab} (hI : Inv P A) {i : Nat} (hi : i < A.2.1) : ∀ v, v ∈ s_line A i → v < 128 := by
  have il := hI.2.2.2.2.2 i hi
  have i1 := hI.1
  intro v hv
  unfold s_line at hv
  simp only [List.mem_append, List.mem_singleton] at hv
  split at hv
  · simp only [List.mem_singleton] at hv; omega
  · simp only [List.not_mem_nil, or_false, false_or] at hv; omega
set_option maxRecDepth 100000 in
theorem mX5_describe {l : Launch} {G : ux_G} {h : ux_H} {a b : Int} {A : Ab} {P : Nat} (hC : rC 0 A h) (hI : Inv P A) (ra : -2147483648 ≤ a ∧ a ≤ 2147483647) (rb : -2147483648 ≤ b ∧ b ≤ 2147483647) : ux_M l G yX5_describe iX5_describe 5 2 [.ref 176, .int (iI a), .int (iI b)] h (fun v h' => v = some (.int (iI (r_describe A a b))) ∧ k_describe A a b = 0 ∧ x_frL h h') (fun E h' => x_frL h h' ∧ xc (k_describe A a b) ["java/lang/IndexOutOfBoundsException", "java/util/NoSuchElementException"] E) := by
  refine ux_ent (L' := [some (.ref 176), some (.int (iI a)), some (.int (iI b))]) kX5_describe rfl rfl rfl rfl ?_
  obtain ⟨i1, i2, i3, i4, i5, i6⟩ := id hI
  have ll := s_line_len A a.toNat
  refine g_aload_n dX5_describe_0 rfl ?_
  refine g_iload_n dX5_describe_1 rfl ?_
  refine q_V (u' := 1) lX5_144 kX5_needLesson (mX5_needLesson hC (by omega) (by omega) (by omega)) dX5_describe_2 rfl rfl rfl rfl rfl rfl rfl rfl (fun v h2 hq => ?_) (fun E hx q => g_out rfl (by decide) (by obtain ⟨rfl, rfl, q3⟩ := q; exact ⟨x_frL_rf _, xc_mk (k := 1) (by unfold k_describe; (repeat' split) <;> first | rfl | omega | contradiction) (by decide) rfl⟩))
  obtain ⟨rfl, eh2, hq2⟩ := hq
  rw [eh2]
  have hta : a.toNat < A.2.1 := by omega
  rw [iI_get (a := a) (by omega) (by omega)]
  dsimp only [Option.toList, List.cons_append, List.nil_append]
  refine g_aload_n dX5_describe_5 rfl ?_
  refine g_getr (q := 190) fX5_46 dX5_describe_6 rfl rfl rfl ?_
  refine g_aload_n dX5_describe_9 rfl ?_
  refine g_getr (q := 0) fX5_10 dX5_describe_10 rfl rfl rfl ?_
  refine g_iload_n dX5_describe_13 rfl ?_
  refine q_VN (u' := 1) lX5_388 kX2_writeLesson (mX2_writeLesson hC hI hta) dX5_describe_14 rfl rfl rfl rfl rfl rfl rfl rfl (fun v h14 hq => ?_)
  obtain ⟨rfl, hL, hF9⟩ := hq
  dsimp only [Option.toList, List.cons_append, List.nil_append]
  refine g_iload_n dX5_describe_17 rfl ?_
  refine g_iconst (v := (-1)) dX5_describe_18 (by decide) ?_
  refine g_icmp_ne (tgt := 30) dX5_describe_19 (by decide) (fun c19 => ?_) (fun c19 => ?_)
  · rw [xqm (by omega) (by omega)] at c19
    refine g_iload_n dX5_describe_30 rfl ?_
    refine g_iconst (v := 0) dX5_describe_31 (by decide) ?_
    refine g_aload_n dX5_describe_32 rfl ?_
    refine g_getr (q := 190) fX5_46 dX5_describe_33 rfl rfl rfl ?_
    refine g_geti fX5_392 dX5_describe_36 rfl rfl ?_
    refine g_top hL.1 ?_
    refine g_iconst (v := 1) dX5_describe_39 (by decide) ?_
    refine g_isub dX5_describe_40 ?_
    refine g_top (y := iI (((s_line A a.toNat).length : Int) - 1)) (by rw [nI_iI, iI_1, iI_sub]) ?_
    refine f1_S (u' := 1) lX5_328 kX5_isWithin (mX5_isWithin) dX5_describe_41 rfl rfl rfl rfl rfl rfl ?_
    refine g_if_ne (tgt := 58) dX5_describe_44 (by decide) (fun c44 => ?_) (fun c44 => ?_)
    · have q44 : 0 ≤ b ∧ b < (s_line A a.toNat).length := by
        have q9 := xb_n0 c44
        rw [iI_0, iI_le (by omega) (by omega) (by omega) (by omega), iI_le (by omega) (by omega) (by omega) (by omega)] at q9
        omega
      refine g_aload_n dX5_describe_58 rfl ?_
      refine g_getr (q := 190) fX5_46 dX5_describe_59 rfl rfl rfl ?_
      refine g_getr (q := 191) fX5_395 dX5_describe_62 rfl rfl rfl ?_
      refine g_iload_n dX5_describe_65 rfl ?_
      obtain ⟨v8, hv8⟩ : ∃ v8, (s_line A a.toNat)[b.toNat]? = some v8 := ⟨_, List.getElem?_eq_getElem (by omega)⟩
      have hv9 := hL.2 b.toNat (by omega) v8 hv8
      refine g_top (iI_get (a := b) (by omega) (by omega)) ?_
      refine f1_S (u' := 1) lX5_399 kX5_signAt (mX5_signAt (k := 191) (j := b.toNat) rfl (show b.toNat < 12 by omega) (by rw [hv9]; exact x_nar2 _ (s_line_c hI hta _ (List.mem_of_getElem? hv8)))) dX5_describe_66 rfl rfl rfl rfl rfl rfl ?_
      refine g_top hv9 ?_
      refine g_ireturn dX5_describe_69 rfl rfl (by decide) ?_
      exact ⟨by unfold r_describe; rw [if_neg c19, hv8, iI_n]; rfl, (by unfold k_describe; (repeat' split) <;> first | rfl | omega | contradiction), hF9⟩
    · have q44 : ¬ (0 ≤ b ∧ b < (s_line A a.toNat).length) := by
        have q9 := xb_0.mp c44
        rw [iI_0, iI_le (by omega) (by omega) (by omega) (by omega), iI_le (by omega) (by omega) (by omega) (by omega)] at q9
        omega
      refine g_throwNW tX5_393_224 dX5_describe_47 dX5_describe_50 dX5_describe_51 dX5_describe_54 dX5_describe_57 rfl rfl (by decide) ?_
      exact ⟨hF9, xc_mk (k := 2) (by unfold k_describe; (repeat' split) <;> first | rfl | omega | contradiction) (by decide) rfl⟩
  · rw [xqm (by omega) (by omega)] at c19
    refine g_aload_n dX5_describe_22 rfl ?_
    refine g_getr (q := 190) fX5_46 dX5_describe_23 rfl rfl rfl ?_
    refine g_geti fX5_392 dX5_describe_26 rfl rfl ?_
    refine g_top hL.1 ?_
    refine g_ireturn dX5_describe_29 rfl rfl (by decide) ?_
    exact ⟨by unfold r_describe; rw [if_pos c19, iI_n], (by unfold k_describe; (repeat' split) <;> first | rfl | omega | contradiction), hF9⟩
/-- the input's signs -/
def rI (L : List Nat) (h : ux_H) : Prop := xgi h 188 1 = nI L.length ∧ L.length ≤ 70 ∧ (∀ v, v ∈ L → 32 ≤ v ∧ v < 127) ∧ ∀ j v, L[j]? = some v → xgi h 189 j = nI v
theorem rI_add {L : List Nat} {h : ux_H} (hL : rI L h) {c : Nat} (hc : 32 ≤ c ∧ c < 127) (hl : L.length < 70) : rI (L ++ [c]) (xsi (xsi h 189 L.length (nI c)) 188 1 (nI (L.length + 1))) := by
  obtain ⟨a, b, d, e⟩ := hL
  refine ⟨by rw [xgi_si, List.length_append]; rfl, by rw [List.length_append, List.length_singleton]; omega, fun v hv => ?_, fun j v hv => ?_⟩
  · rcases List.mem_append.mp hv with q | q
    · exact d v q
    · rw [List.mem_singleton.mp q]; exact hc
  · rw [xgi_ne _ _ _ _ _ _ (by omega), xgi_sif]
    by_cases e2 : j = L.length
    · subst e2
      rw [if_pos ⟨rfl, rfl⟩]
      have : c = v := by simpa using hv
      rw [this]
    · rw [if_neg (by omega)]
      have hj := (List.getElem?_eq_some_iff.mp hv).1
      rw [List.length_append, List.length_singleton] at hj
      rw [List.getElem?_append_left (by omega)] at hv
      exact e j v hv
set_option maxRecDepth 100000 in
theorem mX1_add {l : Launch} {G : ux_G} {h : ux_H} {L : List Nat} {c : Nat} (hL : rI L h) (hl : L.length < 70) (hc : c < 128) : ux_F l G yX1_add iX1_add 1 0 [.ref 188, .int (nI c)] h (none) (xsi (xsi h 189 L.length (nI c)) 188 1 (nI (L.length + 1))) := by
  unfold ux_F
  refine ux_ent (L' := [some (.ref 188), some (.int (nI c))]) kX1_add rfl rfl rfl rfl ?_
  refine g_aload_n dX1_add_0 rfl ?_
  refine g_geti fX1_15 dX1_add_1 rfl rfl ?_
  refine g_top hL.1 ?_
  refine g_if_lt (tgt := 39) dX1_add_4 (by decide) (fun c4 => ?_) (fun c4 => ?_)
  · exact absurd c4 (nI_pos (by omega))
  · refine g_aload_n dX1_add_7 rfl ?_
    refine g_geti fX1_15 dX1_add_8 rfl rfl ?_
    refine g_top hL.1 ?_
    refine g_aload_n dX1_add_11 rfl ?_
    refine g_getr (q := 189) fX1_9 dX1_add_12 rfl rfl rfl ?_
    refine g_alen (v := nI 70) dX1_add_15 (Or.inr (Or.inl rfl)) rfl ?_
    refine g_icmp_ge (tgt := 39) dX1_add_16 (by decide) (fun c16 => ?_) (fun c16 => ?_)
    · exact absurd c16 (nI_ge (show L.length < 70 from hl) (by decide))
    · refine g_aload_n dX1_add_19 rfl ?_
      refine g_getr (q := 189) fX1_9 dX1_add_20 rfl rfl rfl ?_
      refine g_aload_n dX1_add_23 rfl ?_
      refine g_geti fX1_15 dX1_add_24 rfl rfl ?_
      refine g_top hL.1 ?_
      refine g_iload_n dX1_add_27 rfl ?_
      refine g_cast dX1_add_28 rfl (show L.length < 70 from hl) rfl (x_nar c hc) ?_
      refine g_aload_n dX1_add_29 rfl ?_
      refine g_dup dX1_add_30 rfl ?_
      refine g_geti fX1_15 dX1_add_31 rfl rfl ?_
      refine g_top (y := nI L.length) (by rw [xgi_ne _ _ _ _ _ _ (by omega)]; exact hL.1) ?_
      refine g_iconst (v := 1) dX1_add_34 (by decide) ?_
      refine g_iadd dX1_add_35 ?_
      refine g_top (nI_1 _) ?_
      refine g_puti pX1_15 dX1_add_36 rfl rfl ?_
      refine g_return dX1_add_39 rfl (by decide) ?_
      exact ⟨rfl, rfl⟩
def k_append (L : List Nat) (a : Int) : Nat := if ¬ (32 ≤ a ∧ a ≤ 126) then 1 else if ¬ L.length < 70 then 2 else 0
set_option maxRecDepth 100000 in
theorem mX5_append {l : Launch} {G : ux_G} {h : ux_H} {a : Int} {L : List Nat} (hL : rI L h) (ra : -2147483648 ≤ a ∧ a ≤ 2147483647) : ux_M l G yX5_append iX5_append 3 2 [.ref 176, .int (iI a)] h (fun v h' => v = some (.int (nI (L.length + 1))) ∧ k_append L a = 0 ∧ h' = xsi (xsi h 189 L.length (nI a.toNat)) 188 1 (nI (L.length + 1))) (fun E h' => h' = h ∧ xc (k_append L a) ["java/lang/IllegalArgumentException", "java/lang/IllegalStateException"] E) := by
  refine ux_ent (L' := [some (.ref 176), some (.int (iI a))]) kX5_append rfl rfl rfl rfl ?_
  have hl0 := hL.2.1
  refine g_iload_n dX5_append_0 rfl ?_
  refine g_bipush (v := 32) dX5_append_1 (by decide) ?_
  refine g_bipush (v := 126) dX5_append_3 (by decide) ?_
  refine q_S (u' := 1) lX5_70 kX5_needRange (mX5_needRange) dX5_append_5 rfl rfl rfl rfl rfl rfl (fun v h5 hq => ?_) (fun E hx q => g_out rfl (by decide) (by obtain ⟨rfl, rfl, q3⟩ := q; have q3 := (not_congr (x_rg (a := a) (lo := 32) (hi := 126) (by decide) (by decide) ra (by decide) (by decide))).mp q3; exact ⟨rfl, xc_mk (k := 1) (by unfold k_append; (repeat' split) <;> first | rfl | omega | contradiction) (by decide) rfl⟩))
  obtain ⟨rfl, eh5, hq5⟩ := hq
  rw [eh5]
  have hq5 := (x_rg (a := a) (lo := 32) (hi := 126) (by decide) (by decide) ra (by decide) (by decide)).mp hq5
  dsimp only [Option.toList, List.cons_append, List.nil_append]
  refine g_aload_n dX5_append_8 rfl ?_
  refine g_getr (q := 188) fX5_39 dX5_append_9 rfl rfl rfl ?_
  refine g_geti fX5_362 dX5_append_12 rfl rfl ?_
  refine g_top hL.1 ?_
  refine g_bipush (v := 70) dX5_append_15 (by decide) ?_
  refine g_icmp_lt (tgt := 31) dX5_append_17 (by decide) (fun c17 => ?_) (fun c17 => ?_)
  · rw [nI_iI, show (70 : Int32) = iI 70 by decide, iI_lt (by omega) (by omega) (by omega) (by omega)] at c17
    refine g_aload_n dX5_append_31 rfl ?_
    refine g_getr (q := 188) fX5_39 dX5_append_32 rfl rfl rfl ?_
    refine g_iload_n dX5_append_35 rfl ?_
    have q17 : L.length < 70 := by omega
    refine g_top (iI_get (a := a) (by omega) (by omega)) ?_
    refine f0_VN (u' := 1) lX5_367 kX1_add (mX1_add hL q17 (show a.toNat < 128 by omega)) dX5_append_36 rfl rfl rfl rfl rfl rfl rfl rfl ?_
    refine g_aload_n dX5_append_39 rfl ?_
    refine g_getr (q := 188) fX5_39 dX5_append_40 rfl rfl rfl ?_
    refine g_geti fX5_362 dX5_append_43 rfl rfl ?_
    refine g_top (xgi_si _ _ _ _) ?_
    refine g_ireturn dX5_append_46 rfl rfl (by decide) ?_
    exact ⟨rfl, (by unfold k_append; (repeat' split) <;> first | rfl | omega | contradiction), rfl⟩
  · rw [nI_iI, show (70 : Int32) = iI 70 by decide, iI_lt (by omega) (by omega) (by omega) (by omega)] at c17
    refine g_throwW tX5_365_81 dX5_append_20 dX5_append_23 dX5_append_24 dX5_append_27 dX5_append_30 rfl rfl (by decide) ?_
    exact ⟨rfl, xc_mk (k := 2) (by unfold k_append; (repeat' split) <;> first | rfl | omega | contradiction) (by decide) rfl⟩
