/-! THE REFERENCE: calls that change nothing: loops. -/
theorem pow_m1 : ∀ n, n ≤ 8 → (1 : Int32) <<< (nI n &&& 31) - 1 = iI ((2 : Int) ^ n - 1) := by decide +kernel
set_option maxRecDepth 100000 in
theorem wX6_count {l : Launch} {G : ux_G} {h9 h : ux_H} {Hs : List Ab} {A : Ab} {P : Nat} (hM0 : rM 193 0 A h) (hK0 : rK Hs h) (hI : Inv P A) (hJ : InvF A) (eh : h = xsi h9 192 0 0) {w : Int} (hw : 2 ≤ w ∧ w ≤ 5) : ∀ (n : Nat) (j : Nat), j ≤ A.2.1 → A.2.1 - j < n → ux_W l G iX6_count (ux_rm 7 0) (ux_Z G 0 (QR (k_count w) (iI (r_count A w)) A Hs h9) (fun _ _ => False)) 54 [some (.ref 192), some (.int (iI w)), some (.int (nI (s_cnt (fun j => decide (s_st A j = w - 2)) j))), some (.int (nI j))] [] (h) 0 := by
  intro n
  induction n with
  | zero => intro j hj hn; exact absurd hn (Nat.not_lt_zero _)
  | succ n ih =>
    intro j hj hn
    obtain ⟨i1, i2, i3, i4, i5, i6⟩ := id hI
    refine g_iload_n dX6_count_54 rfl ?_
    refine g_aload_n dX6_count_55 rfl ?_
    refine f1_V (u' := 0) lX6_54 kX6_lessons (mX6_lessons hM0) dX6_count_56 rfl rfl rfl rfl rfl rfl rfl rfl ?_
    refine g_icmp_ge (tgt := 82) dX6_count_59 (by decide) (fun c59 => ?_) (fun c59 => ?_)
    · have e : j = A.2.1 := by have := xlt_i c59 (by omega) (by omega); omega
      subst e
      refine g_iload_n dX6_count_82 rfl ?_
      refine g_ireturn dX6_count_83 rfl rfl (by decide) ?_
      subst eh
      exact qr_k (by unfold k_count; rw [if_pos (by omega)]) (by unfold r_count; rw [if_neg (by omega), if_neg (by omega), if_neg (by omega), if_neg (by omega), nI_iI]) hM0 hK0
    · have hlt : j < A.2.1 := xnl_i c59 (by omega) (by omega)
      have il := i6 j hlt
      have hr := s_st_r A j
      refine g_aload_n dX6_count_62 rfl ?_
      refine g_iload_n dX6_count_63 rfl ?_
      refine f1_V (u' := 0) lX6_84 kX6_state (mX6_state hM0 hI (by omega)) dX6_count_64 rfl rfl rfl rfl rfl rfl rfl rfl ?_
      refine g_iload_n dX6_count_67 rfl ?_
      refine g_iconst (v := 2) dX6_count_68 (by decide) ?_
      refine g_isub dX6_count_69 ?_
      refine g_icmp_ne (tgt := 76) dX6_count_70 (by decide) (fun c70 => ?_) (fun c70 => ?_)
      · rw [show iI w - 2 = iI (w - 2) from iI_sub w 2, iI_eq (by omega) (by omega) (by omega) (by omega)] at c70
        refine s_inc (v := nI (j + 1)) dX6_count_76 rfl nI_s rfl rfl rfl ?_
        dsimp only [List.set]
        refine g_goto (tgt := 54) dX6_count_79 (by decide) ?_
        rw [s_cnt_f (P := fun j => decide (s_st A j = w - 2)) (n := j) (by simp [c70])]
        exact ih (j + 1) (by omega) (by omega)
      · rw [show iI w - 2 = iI (w - 2) from iI_sub w 2, iI_eq (by omega) (by omega) (by omega) (by omega)] at c70
        refine s_inc (v := nI (s_cnt (fun j => decide (s_st A j = w - 2)) j + 1)) dX6_count_73 rfl nI_s rfl rfl rfl ?_
        dsimp only [List.set]
        refine s_inc (v := nI (j + 1)) dX6_count_76 rfl nI_s rfl rfl rfl ?_
        dsimp only [List.set]
        refine g_goto (tgt := 54) dX6_count_79 (by decide) ?_
        rw [s_cnt_t (P := fun j => decide (s_st A j = w - 2)) (n := j) (by simp [c70])]
        exact ih (j + 1) (by omega) (by omega)
set_option maxRecDepth 100000 in
theorem mX6_count {l : Launch} {G : ux_G} {h : ux_H} {w : Int} (rw : -2147483648 ≤ w ∧ w ≤ 2147483647) {Hs : List Ab} {A : Ab} {P : Nat} (hM : rM 193 0 A h) (hK : rK Hs h) (hI : Inv P A) (hJ : InvF A) : ux_M l G yX6_count iX6_count 7 0 [.ref 192, .int (iI w)] h (QR (k_count w) (iI (r_count A w)) A Hs h) (fun _ _ => False) := by
  refine ux_ent (L' := [some (.ref 192), some (.int (iI w)), none, none]) kX6_count rfl rfl rfl rfl ?_
  obtain ⟨i1, i2, i3, i4, i5, i6⟩ := id hI
  refine g_aload_n dX6_count_0 rfl ?_
  refine g_iconst (v := 0) dX6_count_1 (by decide) ?_
  refine g_puti pX6_44 dX6_count_2 rfl rfl ?_
  have hM0 := rM_0t (j := 0) (x := 0) (Or.inl rfl) hM
  have hK0 := rK_0t (j := 0) (x := 0) (by decide) hK
  have hF0 := x_fN_0 h 0
  refine g_iload_n dX6_count_5 rfl ?_
  refine g_iconst (v := 0) dX6_count_6 (by decide) ?_
  refine g_bipush (v := 7) dX6_count_7 (by decide) ?_
  refine f1_S (u' := 0) lX6_58 kX6_in (mX6_in) dX6_count_9 rfl rfl rfl rfl rfl rfl ?_
  refine g_if_ne (tgt := 21) dX6_count_12 (by decide) (fun c12 => ?_) (fun c12 => ?_)
  · have q12 := (x_rg (a := w) (lo := 0) (hi := 7) (by decide) (by decide) rw (by decide) (by decide)).mp (xb_n0 c12)
    refine g_iload_n dX6_count_21 rfl ?_
    refine g_iconst (v := 2) dX6_count_22 (by decide) ?_
    refine g_icmp_ge (tgt := 33) dX6_count_23 (by decide) (fun c23 => ?_) (fun c23 => ?_)
    · rw [show (2 : Int32) = iI 2 by decide, iI_le (by omega) (by omega) (by omega) (by omega)] at c23
      refine g_iload_n dX6_count_33 rfl ?_
      refine g_iconst (v := 5) dX6_count_34 (by decide) ?_
      refine g_icmp_le (tgt := 50) dX6_count_35 (by decide) (fun c35 => ?_) (fun c35 => ?_)
      · rw [show (5 : Int32) = iI 5 by decide, iI_le (by omega) (by omega) (by omega) (by omega)] at c35
        refine g_iconst (v := 0) dX6_count_50 (by decide) ?_
        refine s_i (i := 2) dX6_count_51 rfl rfl rfl rfl ?_
        dsimp only [List.set]
        refine g_iconst (v := 0) dX6_count_52 (by decide) ?_
        refine s_i (i := 3) dX6_count_53 rfl rfl rfl rfl ?_
        dsimp only [List.set]
        exact wX6_count (l := l) (G := G) (h9 := h) hM0 hK0 hI hJ rfl ⟨by omega, by omega⟩ (A.2.1 + 1) 0 (Nat.zero_le _) (by omega)
      · rw [show (5 : Int32) = iI 5 by decide, iI_le (by omega) (by omega) (by omega) (by omega)] at c35
        refine g_aload_n dX6_count_38 rfl ?_
        refine g_getr (q := 193) fX6_9 dX6_count_39 rfl rfl rfl ?_
        refine g_iconst (v := 2) dX6_count_42 (by decide) ?_
        refine g_iload_n dX6_count_43 rfl ?_
        refine g_iadd dX6_count_44 ?_
        refine g_bipush (v := 6) dX6_count_45 (by decide) ?_
        refine g_isub dX6_count_47 ?_
        refine g_top (y := nI (w - 4).toNat) (by rw [show (2 : Int32) = iI 2 by decide, iI_add, show (6 : Int32) = iI 6 by decide, iI_sub, show 2 + w - 6 = w - 4 by omega]; exact iI_get (by omega) (by omega)) ?_
        refine g_iald dX6_count_48 rfl (show (w - 4).toNat < 376 by omega) rfl ?_
        refine g_ireturn dX6_count_49 rfl rfl (by decide) ?_
        obtain rfl | rfl : w = 6 ∨ w = 7 := by omega
        · exact qr_k rfl (rM_0 hM0 (Or.inl rfl)) hM0 hK0
        · exact qr_k rfl (rM_0 hM0 (Or.inr rfl)) hM0 hK0
    · rw [show (2 : Int32) = iI 2 by decide, iI_le (by omega) (by omega) (by omega) (by omega)] at c23
      refine g_aload_n dX6_count_26 rfl ?_
      refine g_getr (q := 193) fX6_9 dX6_count_27 rfl rfl rfl ?_
      refine g_iload_n dX6_count_30 rfl ?_
      refine g_top (y := nI w.toNat) (iI_get (by omega) (by omega)) ?_
      refine g_iald dX6_count_31 rfl (show w.toNat < 376 by omega) rfl ?_
      refine g_ireturn dX6_count_32 rfl rfl (by decide) ?_
      obtain rfl | rfl : w = 0 ∨ w = 1 := by omega
      · exact qr_k rfl (hM0.1.trans (nI_iI _)) hM0 hK0
      · exact qr_k rfl (hM0.2.1.trans (nI_iI _)) hM0 hK0
  · have q12 := (not_congr (x_rg (a := w) (lo := 0) (hi := 7) (by decide) (by decide) rw (by decide) (by decide))).mp (xb_0.mp c12)
    refine g_aload_n dX6_count_15 rfl ?_
    refine g_iconst (v := 1) dX6_count_16 (by decide) ?_
    refine f1_V (u' := 0) lX6_107 kX6_raises (mX6_raises) dX6_count_17 rfl rfl rfl rfl rfl rfl rfl rfl ?_
    refine g_ireturn dX6_count_20 rfl rfl (by decide) ?_
    exact qr_n (c := 1) (by unfold k_count; rw [if_neg (by omega)]) (by decide) hM0 hK0 hF0
set_option maxRecDepth 100000 in
theorem wX6_lost {l : Launch} {G : ux_G} {h9 h : ux_H} {Hs : List Ab} {A : Ab} {P : Nat} (hM0 : rM 193 0 A h) (hK0 : rK Hs h) (hI : Inv P A) (hJ : InvF A) (eh : h = xsi h9 192 0 0) {c9 : Nat} (hc9 : c9 < 6) : ∀ (n : Nat) (j : Nat), j ≤ A.2.1 → A.2.1 - j < n → ux_W l G iX6_lost (ux_rm 7 0) (ux_Z G 0 (QR (k_lost (c9 : Int)) (nI (s_cnt (fun j => decide (aF A 9 j = (c9 : Int)) && (decide (s_st A j = 3) || decide (s_st A j = 2))) A.2.1)) A Hs h9) (fun _ _ => False)) 22 [some (.ref 192), some (.int (iI (c9 : Int))), some (.int (nI (s_cnt (fun j => decide (aF A 9 j = (c9 : Int)) && (decide (s_st A j = 3) || decide (s_st A j = 2))) j))), some (.int (nI j))] [] (h) 0 := by
  intro n
  induction n with
  | zero => intro j hj hn; exact absurd hn (Nat.not_lt_zero _)
  | succ n ih =>
    intro j hj hn
    obtain ⟨i1, i2, i3, i4, i5, i6⟩ := id hI
    refine g_iload_n dX6_lost_22 rfl ?_
    refine g_aload_n dX6_lost_23 rfl ?_
    refine f1_V (u' := 0) lX6_54 kX6_lessons (mX6_lessons hM0) dX6_lost_24 rfl rfl rfl rfl rfl rfl rfl rfl ?_
    refine g_icmp_ge (tgt := 58) dX6_lost_27 (by decide) (fun c27 => ?_) (fun c27 => ?_)
    · have e : j = A.2.1 := by have := xlt_i c27 (by omega) (by omega); omega
      subst e
      refine g_iload_n dX6_lost_58 rfl ?_
      refine g_ireturn dX6_lost_59 rfl rfl (by decide) ?_
      subst eh
      exact qr_k (by unfold k_lost; rw [if_neg (by omega)]) (rfl) hM0 hK0
    · have hlt : j < A.2.1 := xnl_i c27 (by omega) (by omega)
      have il := i6 j hlt
      have hr := s_st_r A j
      refine g_aload_n dX6_lost_30 rfl ?_
      refine g_iload_n dX6_lost_31 rfl ?_
      refine g_iconst (v := 1) dX6_lost_32 (by decide) ?_
      refine f1_V (u' := 0) lX6_78 kX6_of (mX6_of (f := 9) hM0 (by omega) rfl (by omega)) dX6_lost_33 rfl rfl rfl rfl rfl rfl rfl rfl ?_
      refine g_iload_n dX6_lost_36 rfl ?_
      refine g_icmp_ne (tgt := 52) dX6_lost_37 (by decide) (fun c37 => ?_) (fun c37 => ?_)
      · rw [iI_eq (by omega) (by omega) (by omega) (by omega)] at c37
        refine s_inc (v := nI (j + 1)) dX6_lost_52 rfl nI_s rfl rfl rfl ?_
        dsimp only [List.set]
        refine g_goto (tgt := 22) dX6_lost_55 (by decide) ?_
        rw [s_cnt_f (P := fun j => decide (aF A 9 j = (c9 : Int)) && (decide (s_st A j = 3) || decide (s_st A j = 2))) (n := j) (by simp [c37])]
        exact ih (j + 1) (by omega) (by omega)
      · rw [iI_eq (by omega) (by omega) (by omega) (by omega)] at c37
        refine g_aload_n dX6_lost_40 rfl ?_
        refine g_iload_n dX6_lost_41 rfl ?_
        refine f1_V (u' := 0) lX6_84 kX6_state (mX6_state hM0 hI (by omega)) dX6_lost_42 rfl rfl rfl rfl rfl rfl rfl rfl ?_
        refine g_iconst (v := 1) dX6_lost_45 (by decide) ?_
        refine g_icmp_le (tgt := 52) dX6_lost_46 (by decide) (fun c46 => ?_) (fun c46 => ?_)
        · rw [show (1 : Int32) = iI 1 by decide, iI_le (by omega) (by omega) (by omega) (by omega)] at c46
          have q46 : ¬ s_st A j = 3 ∧ ¬ s_st A j = 2 := by omega
          refine s_inc (v := nI (j + 1)) dX6_lost_52 rfl nI_s rfl rfl rfl ?_
          dsimp only [List.set]
          refine g_goto (tgt := 22) dX6_lost_55 (by decide) ?_
          rw [s_cnt_f (P := fun j => decide (aF A 9 j = (c9 : Int)) && (decide (s_st A j = 3) || decide (s_st A j = 2))) (n := j) (by simp [c37, q46])]
          exact ih (j + 1) (by omega) (by omega)
        · rw [show (1 : Int32) = iI 1 by decide, iI_le (by omega) (by omega) (by omega) (by omega)] at c46
          have q46 : s_st A j = 3 ∨ s_st A j = 2 := by omega
          refine s_inc (v := nI (s_cnt (fun j => decide (aF A 9 j = (c9 : Int)) && (decide (s_st A j = 3) || decide (s_st A j = 2))) j + 1)) dX6_lost_49 rfl nI_s rfl rfl rfl ?_
          dsimp only [List.set]
          refine s_inc (v := nI (j + 1)) dX6_lost_52 rfl nI_s rfl rfl rfl ?_
          dsimp only [List.set]
          refine g_goto (tgt := 22) dX6_lost_55 (by decide) ?_
          rw [s_cnt_t (P := fun j => decide (aF A 9 j = (c9 : Int)) && (decide (s_st A j = 3) || decide (s_st A j = 2))) (n := j) (by simp [c37, q46])]
          exact ih (j + 1) (by omega) (by omega)
set_option maxRecDepth 100000 in
theorem mX6_lost {l : Launch} {G : ux_G} {h : ux_H} {a : Int} (ra : -2147483648 ≤ a ∧ a ≤ 2147483647) {Hs : List Ab} {A : Ab} {P : Nat} (hM : rM 193 0 A h) (hK : rK Hs h) (hI : Inv P A) (hJ : InvF A) : ux_M l G yX6_lost iX6_lost 7 0 [.ref 192, .int (iI a)] h (QR (k_lost a) (nI (s_cnt (fun j => decide (aF A 9 j = (a.toNat : Int)) && (decide (s_st A j = 3) || decide (s_st A j = 2))) A.2.1)) A Hs h) (fun _ _ => False) := by
  refine ux_ent (L' := [some (.ref 192), some (.int (iI a)), none, none]) kX6_lost rfl rfl rfl rfl ?_
  obtain ⟨i1, i2, i3, i4, i5, i6⟩ := id hI
  refine g_aload_n dX6_lost_0 rfl ?_
  refine g_iconst (v := 0) dX6_lost_1 (by decide) ?_
  refine g_puti pX6_44 dX6_lost_2 rfl rfl ?_
  have hM0 := rM_0t (j := 0) (x := 0) (Or.inl rfl) hM
  have hK0 := rK_0t (j := 0) (x := 0) (by decide) hK
  have hF0 := x_fN_0 h 0
  refine g_iload_n dX6_lost_5 rfl ?_
  refine f1_S (u' := 0) lX6_129 kX6_isSix (mX6_isSix (by omega)) dX6_lost_6 rfl rfl rfl rfl rfl rfl ?_
  refine g_if_ne (tgt := 18) dX6_lost_9 (by decide) (fun c9 => ?_) (fun c9 => ?_)
  · have q9 := xb_n0 c9
    refine g_iconst (v := 0) dX6_lost_18 (by decide) ?_
    refine s_i (i := 2) dX6_lost_19 rfl rfl rfl rfl ?_
    dsimp only [List.set]
    refine g_iconst (v := 0) dX6_lost_20 (by decide) ?_
    refine s_i (i := 3) dX6_lost_21 rfl rfl rfl rfl ?_
    dsimp only [List.set]
    obtain ⟨c9, rfl⟩ : ∃ c9 : Nat, a = (c9 : Int) := ⟨a.toNat, by omega⟩
    exact wX6_lost (l := l) (G := G) (h9 := h) hM0 hK0 hI hJ rfl (by omega) (A.2.1 + 1) 0 (Nat.zero_le _) (by omega)
  · have q9 := xb_0.mp c9
    refine g_aload_n dX6_lost_12 rfl ?_
    refine g_iconst (v := 1) dX6_lost_13 (by decide) ?_
    refine f1_V (u' := 0) lX6_107 kX6_raises (mX6_raises) dX6_lost_14 rfl rfl rfl rfl rfl rfl rfl rfl ?_
    refine g_ireturn dX6_lost_17 rfl rfl (by decide) ?_
    exact qr_n (c := 1) (by unfold k_lost; rw [if_pos q9]) (by decide) hM0 hK0 hF0
set_option maxRecDepth 100000 in
theorem mX6_host {l : Launch} {G : ux_G} {h : ux_H} {a : Int} {b : Bool} (ra : -2147483648 ≤ a ∧ a ≤ 2147483647) {Hs : List Ab} {A : Ab} {P : Nat} (hM : rM 193 0 A h) (hK : rK Hs h) (hI : Inv P A) (hJ : InvF A) : ux_M l G yX6_host iX6_host 6 0 [.ref 192, .int (iI a), .int (if b then 1 else 0)] h (QR (k_host A a) (iI (aF A (if b then 15 else 14) a.toNat)) A Hs h) (fun _ _ => False) := by
  refine ux_ent (L' := [some (.ref 192), some (.int (iI a)), some (.int (if b then 1 else 0))]) kX6_host rfl rfl rfl rfl ?_
  obtain ⟨i1, i2, i3, i4, i5, i6⟩ := id hI
  refine g_aload_n dX6_host_0 rfl ?_
  refine g_iconst (v := 0) dX6_host_1 (by decide) ?_
  refine g_puti pX6_44 dX6_host_2 rfl rfl ?_
  have hM0 := rM_0t (j := 0) (x := 0) (Or.inl rfl) hM
  have hK0 := rK_0t (j := 0) (x := 0) (by decide) hK
  have hF0 := x_fN_0 h 0
  refine g_aload_n dX6_host_5 rfl ?_
  refine g_iload_n dX6_host_6 rfl ?_
  refine f1_V (u' := 0) lX6_153 kX6_isLesson (mX6_isLesson hM0 (by omega) (by omega)) dX6_host_7 rfl rfl rfl rfl rfl rfl rfl rfl ?_
  refine g_if_ne (tgt := 19) dX6_host_10 (by decide) (fun c10 => ?_) (fun c10 => ?_)
  · have q10 := xb_n0 c10
    refine g_aload_n dX6_host_19 rfl ?_
    refine g_iload_n dX6_host_20 rfl ?_
    refine g_top (y := nI a.toNat) (iI_get (by omega) (by omega)) ?_
    refine f1_V (u' := 0) lX6_84 kX6_state (mX6_state hM0 hI (by omega)) dX6_host_21 rfl rfl rfl rfl rfl rfl rfl rfl ?_
    have hr := s_st_r A a.toNat
    refine g_iconst (v := 2) dX6_host_24 (by decide) ?_
    refine g_icmp_ne (tgt := 47) dX6_host_25 (by decide) (fun c25 => ?_) (fun c25 => ?_)
    · rw [show (2 : Int32) = iI 2 by decide, iI_eq (by omega) (by omega) (by omega) (by omega)] at c25
      refine g_aload_n dX6_host_47 rfl ?_
      refine g_iconst (v := 2) dX6_host_48 (by decide) ?_
      refine f1_V (u' := 0) lX6_107 kX6_raises (mX6_raises) dX6_host_49 rfl rfl rfl rfl rfl rfl rfl rfl ?_
      refine g_ireturn dX6_host_52 rfl rfl (by decide) ?_
      first | exact qr_k (by unfold k_host; (repeat' split) <;> first | rfl | omega | contradiction) (rfl) hM0 hK0 | exact qr_n (c := 2) (by unfold k_host; (repeat' split) <;> first | rfl | omega | contradiction) (by decide) hM0 hK0 hF0
    · rw [show (2 : Int32) = iI 2 by decide, iI_eq (by omega) (by omega) (by omega) (by omega)] at c25
      refine g_aload_n dX6_host_28 rfl ?_
      refine g_iload_n dX6_host_29 rfl ?_
      refine g_top (y := nI a.toNat) (iI_get (by omega) (by omega)) ?_
      refine g_iload_n dX6_host_30 rfl ?_
      refine g_if_eq (tgt := 39) dX6_host_31 (by decide) (fun c31 => ?_) (fun c31 => ?_)
      · have qb : b = false := by cases b with | false => rfl | true => exact absurd c31 (by decide)
        subst qb
        refine g_bipush (v := 6) dX6_host_39 (by decide) ?_
        refine f1_V (u' := 0) lX6_78 kX6_of (mX6_of (f := 14) hM0 (by omega) rfl (by omega)) dX6_host_41 rfl rfl rfl rfl rfl rfl rfl rfl ?_
        refine g_goto (tgt := 52) dX6_host_44 (by decide) ?_
        refine g_ireturn dX6_host_52 rfl rfl (by decide) ?_
        first | exact qr_k (by unfold k_host; (repeat' split) <;> first | rfl | omega | contradiction) (rfl) hM0 hK0 | exact qr_n (c := 2) (by unfold k_host; (repeat' split) <;> first | rfl | omega | contradiction) (by decide) hM0 hK0 hF0
      · have qb : b = true := by cases b with | true => rfl | false => exact absurd rfl c31
        subst qb
        refine g_bipush (v := 7) dX6_host_34 (by decide) ?_
        refine g_goto (tgt := 41) dX6_host_36 (by decide) ?_
        refine f1_V (u' := 0) lX6_78 kX6_of (mX6_of (f := 15) hM0 (by omega) rfl (by omega)) dX6_host_41 rfl rfl rfl rfl rfl rfl rfl rfl ?_
        refine g_goto (tgt := 52) dX6_host_44 (by decide) ?_
        refine g_ireturn dX6_host_52 rfl rfl (by decide) ?_
        first | exact qr_k (by unfold k_host; (repeat' split) <;> first | rfl | omega | contradiction) (rfl) hM0 hK0 | exact qr_n (c := 2) (by unfold k_host; (repeat' split) <;> first | rfl | omega | contradiction) (by decide) hM0 hK0 hF0
  · have q10 := xb_0.mp c10
    refine g_aload_n dX6_host_13 rfl ?_
    refine g_iconst (v := 1) dX6_host_14 (by decide) ?_
    refine f1_V (u' := 0) lX6_107 kX6_raises (mX6_raises) dX6_host_15 rfl rfl rfl rfl rfl rfl rfl rfl ?_
    refine g_ireturn dX6_host_18 rfl rfl (by decide) ?_
    exact qr_n (c := 1) (by unfold k_host; (repeat' split) <;> first | rfl | omega | contradiction) (by decide) hM0 hK0 hF0
set_option maxRecDepth 100000 in
theorem wX6_freeRooms {l : Launch} {G : ux_G} {h9 h : ux_H} {Hs : List Ab} {A : Ab} {P : Nat} (hM0 : rM 193 0 A h) (hK0 : rK Hs h) (hI : Inv P A) (hJ : InvF A) (eh : h = xsi h9 192 0 0) {a : Int} (ha : 0 ≤ a ∧ a < 30) : ∀ (n : Nat) (j : Nat), j ≤ 6 → 6 - j < n → ux_W l G iX6_freeRooms (ux_rm 6 0) (ux_Z G 0 (QR (k_freeRooms a) (s_mask (fun c => decide (s_find A 12 a c = -1)) 6) A Hs h9) (fun _ _ => False)) 22 [some (.ref 192), some (.int (iI a)), some (.int (s_mask (fun c => decide (s_find A 12 a c = -1)) j)), some (.int (nI j))] [] (h) 0 := by
  intro n
  induction n with
  | zero => intro j hj hn; exact absurd hn (Nat.not_lt_zero _)
  | succ n ih =>
    intro j hj hn
    obtain ⟨i1, i2, i3, i4, i5, i6⟩ := id hI
    refine g_iload_n dX6_freeRooms_22 rfl ?_
    refine g_bipush (v := 6) dX6_freeRooms_23 (by decide) ?_
    refine g_icmp_ge (tgt := 51) dX6_freeRooms_25 (by decide) (fun c25 => ?_) (fun c25 => ?_)
    · have e : j = 6 := by rw [show (6 : Int32) = nI 6 by decide] at c25; have := xlt_i c25 (by omega) (by omega); omega
      subst e
      refine g_iload_n dX6_freeRooms_51 rfl ?_
      refine g_ireturn dX6_freeRooms_52 rfl rfl (by decide) ?_
      subst eh
      exact qr_k (by unfold k_freeRooms; rw [if_neg (by omega)]) (rfl) hM0 hK0
    · have hlt : j < 6 := by rw [show (6 : Int32) = nI 6 by decide] at c25; exact xnl_i c25 (by omega) (by omega)
      refine g_aload_n dX6_freeRooms_28 rfl ?_
      refine g_iload_n dX6_freeRooms_29 rfl ?_
      refine g_iconst (v := 4) dX6_freeRooms_30 (by decide) ?_
      refine g_iload_n dX6_freeRooms_31 rfl ?_
      refine g_top (nI_iI j) ?_
      refine f1_V (u' := 0) lX6_165 kX6_find (mX6_find (f := 12) hM0 hI rfl (by omega) (by omega) (fun i hi => by have := i6 i hi; omega) (find_un hJ (by decide) _ _)) dX6_freeRooms_32 rfl rfl rfl rfl rfl rfl rfl rfl ?_
      have fr := s_find_r hI 12 a j
      refine g_iconst (v := (-1)) dX6_freeRooms_35 (by decide) ?_
      refine g_icmp_ne (tgt := 45) dX6_freeRooms_36 (by decide) (fun c36 => ?_) (fun c36 => ?_)
      · rw [xqm (by omega) (by omega)] at c36
        refine s_inc (v := nI (j + 1)) dX6_freeRooms_45 rfl nI_s rfl rfl rfl ?_
        dsimp only [List.set]
        refine g_goto (tgt := 22) dX6_freeRooms_48 (by decide) ?_
        have e0 : s_mask (fun c => decide (s_find A 12 a c = -1)) (j + 1) = if (fun c => decide (s_find A 12 a c = -1)) j = true then s_mask (fun c => decide (s_find A 12 a c = -1)) j ||| (1 <<< (nI j &&& 31)) else s_mask (fun c => decide (s_find A 12 a c = -1)) j := rfl
        rw [if_neg (fun y => c36 (of_decide_eq_true y))] at e0
        rw [← e0]
        exact ih (j + 1) (by omega) (by omega)
      · rw [xqm (by omega) (by omega)] at c36
        refine g_iload_n dX6_freeRooms_39 rfl ?_
        refine g_iconst (v := 1) dX6_freeRooms_40 (by decide) ?_
        refine g_iload_n dX6_freeRooms_41 rfl ?_
        refine g_ishl dX6_freeRooms_42 ?_
        refine g_ior dX6_freeRooms_43 ?_
        refine s_i (i := 2) dX6_freeRooms_44 rfl rfl rfl rfl ?_
        dsimp only [List.set]
        refine s_inc (v := nI (j + 1)) dX6_freeRooms_45 rfl nI_s rfl rfl rfl ?_
        dsimp only [List.set]
        refine g_goto (tgt := 22) dX6_freeRooms_48 (by decide) ?_
        have e0 : s_mask (fun c => decide (s_find A 12 a c = -1)) (j + 1) = if (fun c => decide (s_find A 12 a c = -1)) j = true then s_mask (fun c => decide (s_find A 12 a c = -1)) j ||| (1 <<< (nI j &&& 31)) else s_mask (fun c => decide (s_find A 12 a c = -1)) j := rfl
        rw [if_pos (decide_eq_true c36)] at e0
        rw [← e0]
        exact ih (j + 1) (by omega) (by omega)
set_option maxRecDepth 100000 in
theorem mX6_freeRooms {l : Launch} {G : ux_G} {h : ux_H} {a : Int} (ra : -2147483648 ≤ a ∧ a ≤ 2147483647) {Hs : List Ab} {A : Ab} {P : Nat} (hM : rM 193 0 A h) (hK : rK Hs h) (hI : Inv P A) (hJ : InvF A) : ux_M l G yX6_freeRooms iX6_freeRooms 6 0 [.ref 192, .int (iI a)] h (QR (k_freeRooms a) (s_mask (fun c => decide (s_find A 12 a c = -1)) 6) A Hs h) (fun _ _ => False) := by
  refine ux_ent (L' := [some (.ref 192), some (.int (iI a)), none, none]) kX6_freeRooms rfl rfl rfl rfl ?_
  obtain ⟨i1, i2, i3, i4, i5, i6⟩ := id hI
  refine g_aload_n dX6_freeRooms_0 rfl ?_
  refine g_iconst (v := 0) dX6_freeRooms_1 (by decide) ?_
  refine g_puti pX6_44 dX6_freeRooms_2 rfl rfl ?_
  have hM0 := rM_0t (j := 0) (x := 0) (Or.inl rfl) hM
  have hK0 := rK_0t (j := 0) (x := 0) (by decide) hK
  have hF0 := x_fN_0 h 0
  refine g_iload_n dX6_freeRooms_5 rfl ?_
  refine f1_S (u' := 0) lX6_142 kX6_isSlot (mX6_isSlot (by omega)) dX6_freeRooms_6 rfl rfl rfl rfl rfl rfl ?_
  refine g_if_ne (tgt := 18) dX6_freeRooms_9 (by decide) (fun c9 => ?_) (fun c9 => ?_)
  · have q9 := xb_n0 c9
    refine g_iconst (v := 0) dX6_freeRooms_18 (by decide) ?_
    refine s_i (i := 2) dX6_freeRooms_19 rfl rfl rfl rfl ?_
    dsimp only [List.set]
    refine g_iconst (v := 0) dX6_freeRooms_20 (by decide) ?_
    refine s_i (i := 3) dX6_freeRooms_21 rfl rfl rfl rfl ?_
    dsimp only [List.set]
    exact wX6_freeRooms (l := l) (G := G) (h9 := h) hM0 hK0 hI hJ rfl q9 7 0 (Nat.zero_le _) (by omega)
  · have q9 := xb_0.mp c9
    refine g_aload_n dX6_freeRooms_12 rfl ?_
    refine g_iconst (v := 1) dX6_freeRooms_13 (by decide) ?_
    refine f1_V (u' := 0) lX6_107 kX6_raises (mX6_raises) dX6_freeRooms_14 rfl rfl rfl rfl rfl rfl rfl rfl ?_
    refine g_ireturn dX6_freeRooms_17 rfl rfl (by decide) ?_
    exact qr_n (c := 1) (by unfold k_freeRooms; rw [if_pos q9]) (by decide) hM0 hK0 hF0
set_option maxRecDepth 100000 in
theorem wX6_free {l : Launch} {G : ux_G} {h9 h : ux_H} {Hs : List Ab} {A : Ab} {P : Nat} (hM0 : rM 193 0 A h) (hK0 : rK Hs h) (hI : Inv P A) (hJ : InvF A) (eh : h = xsi h9 192 0 0) {a b : Int} (ha : 0 ≤ a ∧ a < A.1) (hb : 0 ≤ b ∧ b < 5) : ∀ (n : Nat) (j : Nat), j ≤ 6 → 6 - j < n → ux_W l G iX6_free (ux_rm 7 0) (ux_Z G 0 (QR (k_free A a b) (s_mask (fun p => s_free A a.toNat ((6 * b.toNat + p : Nat) : Int)) 6) A Hs h9) (fun _ _ => False)) 31 [some (.ref 192), some (.int (iI a)), some (.int (iI b)), some (.int (s_mask (fun p => s_free A a.toNat ((6 * b.toNat + p : Nat) : Int)) j)), some (.int (nI j)), none] [] (h) 0 := by
  intro n
  induction n with
  | zero => intro j hj hn; exact absurd hn (Nat.not_lt_zero _)
  | succ n ih =>
    intro j hj hn
    obtain ⟨i1, i2, i3, i4, i5, i6⟩ := id hI
    refine g_iload dX6_free_31 rfl ?_
    refine g_bipush (v := 6) dX6_free_33 (by decide) ?_
    refine g_icmp_ge (tgt := 92) dX6_free_35 (by decide) (fun c35 => ?_) (fun c35 => ?_)
    · have e : j = 6 := by rw [show (6 : Int32) = nI 6 by decide] at c35; have := xlt_i c35 (by omega) (by omega); omega
      subst e
      refine g_iload_n dX6_free_92 rfl ?_
      refine g_ireturn dX6_free_93 rfl rfl (by decide) ?_
      subst eh
      exact qr_k (by unfold k_free; rw [if_neg (by omega)]) (rfl) hM0 hK0
    · have hlt : j < 6 := by rw [show (6 : Int32) = nI 6 by decide] at c35; exact xnl_i c35 (by omega) (by omega)
      refine g_bipush (v := 6) dX6_free_38 (by decide) ?_
      refine g_iload_n dX6_free_40 rfl ?_
      refine g_imul dX6_free_41 ?_
      refine g_iload dX6_free_42 rfl ?_
      refine g_iadd dX6_free_44 ?_
      refine g_top (y := iI ((6 * b.toNat + j : Nat) : Int)) (by rw [show (6 : Int32) = iI 6 by decide, iI_mul, nI_iI, iI_add]; congr 1; omega) ?_
      refine s_iw dX6_free_45 rfl rfl rfl ?_
      dsimp only [List.set]
      refine g_aload_n dX6_free_47 rfl ?_
      refine g_iload_n dX6_free_48 rfl ?_
      refine g_top (y := nI a.toNat) (iI_get (by omega) (by omega)) ?_
      refine g_iload dX6_free_49 rfl ?_
      refine f1_V (u' := 0) lX6_81 kX6_isAway (mX6_isAway hM0 hI (by omega)) dX6_free_51 rfl rfl rfl rfl rfl rfl rfl rfl ?_
      refine g_if_ne (tgt := 86) dX6_free_54 (by decide) (fun c54 => ?_) (fun c54 => ?_)
      · have q54 := xb_n0 c54
        refine s_inc (v := nI (j + 1)) dX6_free_86 rfl nI_s rfl rfl rfl ?_
        dsimp only [List.set]
        refine g_goto (tgt := 31) dX6_free_89 (by decide) ?_
        refine g_fg 5 rfl ?_
        dsimp only [List.set]
        have e0 : s_mask (fun p => s_free A a.toNat ((6 * b.toNat + p : Nat) : Int)) (j + 1) = if (fun p => s_free A a.toNat ((6 * b.toNat + p : Nat) : Int)) j = true then s_mask (fun p => s_free A a.toNat ((6 * b.toNat + p : Nat) : Int)) j ||| (1 <<< (nI j &&& 31)) else s_mask (fun p => s_free A a.toNat ((6 * b.toNat + p : Nat) : Int)) j := rfl
        rw [if_neg (by show ¬ (!s_away A a.toNat ((6 * b.toNat + j : Nat) : Int) && decide (s_find A 11 ((6 * b.toNat + j : Nat) : Int) a.toNat = -1) && decide (s_find A 13 ((6 * b.toNat + j : Nat) : Int) a.toNat = -1)) = true; rw [q54]; simp)] at e0
        rw [← e0]
        exact ih (j + 1) (by omega) (by omega)
      · have q54 := xb_0.mp c54
        refine g_aload_n dX6_free_57 rfl ?_
        refine g_iload dX6_free_58 rfl ?_
        refine g_iconst (v := 3) dX6_free_60 (by decide) ?_
        refine g_iload_n dX6_free_61 rfl ?_
        refine g_top (y := iI (a.toNat : Int)) (by rw [Int.toNat_of_nonneg ha.1]) ?_
        refine f1_V (u' := 0) lX6_165 kX6_find (mX6_find (f := 11) hM0 hI rfl (by omega) (by omega) (fun i hi => by have := i6 i hi; omega) (find_un hJ (by decide) _ _)) dX6_free_62 rfl rfl rfl rfl rfl rfl rfl rfl ?_
        have fr := s_find_r hI 11 ((6 * b.toNat + j : Nat) : Int) a.toNat
        refine g_iconst (v := (-1)) dX6_free_65 (by decide) ?_
        refine g_icmp_ne (tgt := 86) dX6_free_66 (by decide) (fun c66 => ?_) (fun c66 => ?_)
        · rw [xqm (by omega) (by omega)] at c66
          refine s_inc (v := nI (j + 1)) dX6_free_86 rfl nI_s rfl rfl rfl ?_
          dsimp only [List.set]
          refine g_goto (tgt := 31) dX6_free_89 (by decide) ?_
          refine g_fg 5 rfl ?_
          dsimp only [List.set]
          have e0 : s_mask (fun p => s_free A a.toNat ((6 * b.toNat + p : Nat) : Int)) (j + 1) = if (fun p => s_free A a.toNat ((6 * b.toNat + p : Nat) : Int)) j = true then s_mask (fun p => s_free A a.toNat ((6 * b.toNat + p : Nat) : Int)) j ||| (1 <<< (nI j &&& 31)) else s_mask (fun p => s_free A a.toNat ((6 * b.toNat + p : Nat) : Int)) j := rfl
          rw [if_neg (by show ¬ (!s_away A a.toNat ((6 * b.toNat + j : Nat) : Int) && decide (s_find A 11 ((6 * b.toNat + j : Nat) : Int) a.toNat = -1) && decide (s_find A 13 ((6 * b.toNat + j : Nat) : Int) a.toNat = -1)) = true; rw [decide_eq_false c66]; simp)] at e0
          rw [← e0]
          exact ih (j + 1) (by omega) (by omega)
        · rw [xqm (by omega) (by omega)] at c66
          refine g_aload_n dX6_free_69 rfl ?_
          refine g_iload_n dX6_free_70 rfl ?_
          refine g_top (y := nI a.toNat) (iI_get (by omega) (by omega)) ?_
          refine g_iload dX6_free_71 rfl ?_
          refine f1_V (u' := 0) lX6_139 kX6_covers (mX6_covers hM0 hI (by omega) (by omega)) dX6_free_73 rfl rfl rfl rfl rfl rfl rfl rfl ?_
          refine g_if_ne (tgt := 86) dX6_free_76 (by decide) (fun c76 => ?_) (fun c76 => ?_)
          · have q76 := xb_n0 c76
            refine s_inc (v := nI (j + 1)) dX6_free_86 rfl nI_s rfl rfl rfl ?_
            dsimp only [List.set]
            refine g_goto (tgt := 31) dX6_free_89 (by decide) ?_
            refine g_fg 5 rfl ?_
            dsimp only [List.set]
            have e0 : s_mask (fun p => s_free A a.toNat ((6 * b.toNat + p : Nat) : Int)) (j + 1) = if (fun p => s_free A a.toNat ((6 * b.toNat + p : Nat) : Int)) j = true then s_mask (fun p => s_free A a.toNat ((6 * b.toNat + p : Nat) : Int)) j ||| (1 <<< (nI j &&& 31)) else s_mask (fun p => s_free A a.toNat ((6 * b.toNat + p : Nat) : Int)) j := rfl
            rw [if_neg (by show ¬ (!s_away A a.toNat ((6 * b.toNat + j : Nat) : Int) && decide (s_find A 11 ((6 * b.toNat + j : Nat) : Int) a.toNat = -1) && decide (s_find A 13 ((6 * b.toNat + j : Nat) : Int) a.toNat = -1)) = true; rw [decide_eq_false q76]; simp)] at e0
            rw [← e0]
            exact ih (j + 1) (by omega) (by omega)
          · have q76 := Decidable.not_not.mp (xb_0.mp c76)
            refine g_iload_n dX6_free_79 rfl ?_
            refine g_iconst (v := 1) dX6_free_80 (by decide) ?_
            refine g_iload dX6_free_81 rfl ?_
            refine g_ishl dX6_free_83 ?_
            refine g_ior dX6_free_84 ?_
            refine s_i (i := 3) dX6_free_85 rfl rfl rfl rfl ?_
            dsimp only [List.set]
            refine s_inc (v := nI (j + 1)) dX6_free_86 rfl nI_s rfl rfl rfl ?_
            dsimp only [List.set]
            refine g_goto (tgt := 31) dX6_free_89 (by decide) ?_
            refine g_fg 5 rfl ?_
            dsimp only [List.set]
            have e0 : s_mask (fun p => s_free A a.toNat ((6 * b.toNat + p : Nat) : Int)) (j + 1) = if (fun p => s_free A a.toNat ((6 * b.toNat + p : Nat) : Int)) j = true then s_mask (fun p => s_free A a.toNat ((6 * b.toNat + p : Nat) : Int)) j ||| (1 <<< (nI j &&& 31)) else s_mask (fun p => s_free A a.toNat ((6 * b.toNat + p : Nat) : Int)) j := rfl
            rw [if_pos (by show (!s_away A a.toNat ((6 * b.toNat + j : Nat) : Int) && decide (s_find A 11 ((6 * b.toNat + j : Nat) : Int) a.toNat = -1) && decide (s_find A 13 ((6 * b.toNat + j : Nat) : Int) a.toNat = -1)) = true; rw [Bool.eq_false_iff.mpr q54, decide_eq_true c66, decide_eq_true q76]; rfl)] at e0
            rw [← e0]
            exact ih (j + 1) (by omega) (by omega)
set_option maxRecDepth 100000 in
theorem mX6_free {l : Launch} {G : ux_G} {h : ux_H} {a b : Int} (ra : -2147483648 ≤ a ∧ a ≤ 2147483647) (rb : -2147483648 ≤ b ∧ b ≤ 2147483647) {Hs : List Ab} {A : Ab} {P : Nat} (hM : rM 193 0 A h) (hK : rK Hs h) (hI : Inv P A) (hJ : InvF A) : ux_M l G yX6_free iX6_free 7 0 [.ref 192, .int (iI a), .int (iI b)] h (QR (k_free A a b) (s_mask (fun p => s_free A a.toNat ((6 * b.toNat + p : Nat) : Int)) 6) A Hs h) (fun _ _ => False) := by
  refine ux_ent (L' := [some (.ref 192), some (.int (iI a)), some (.int (iI b)), none, none, none]) kX6_free rfl rfl rfl rfl ?_
  obtain ⟨i1, i2, i3, i4, i5, i6⟩ := id hI
  refine g_aload_n dX6_free_0 rfl ?_
  refine g_iconst (v := 0) dX6_free_1 (by decide) ?_
  refine g_puti pX6_44 dX6_free_2 rfl rfl ?_
  have hM0 := rM_0t (j := 0) (x := 0) (Or.inl rfl) hM
  have hK0 := rK_0t (j := 0) (x := 0) (by decide) hK
  have hF0 := x_fN_0 h 0
  refine g_aload_n dX6_free_5 rfl ?_
  refine g_iload_n dX6_free_6 rfl ?_
  refine f1_V (u' := 0) lX6_119 kX6_isTeacher (mX6_isTeacher hM0 (by omega) (by omega)) dX6_free_7 rfl rfl rfl rfl rfl rfl rfl rfl ?_
  refine g_if_eq (tgt := 20) dX6_free_10 (by decide) (fun c10 => ?_) (fun c10 => ?_)
  · have q10 := xb_0.mp c10
    refine g_aload_n dX6_free_20 rfl ?_
    refine g_iconst (v := 1) dX6_free_21 (by decide) ?_
    refine f1_V (u' := 0) lX6_107 kX6_raises (mX6_raises) dX6_free_22 rfl rfl rfl rfl rfl rfl rfl rfl ?_
    refine g_ireturn dX6_free_25 rfl rfl (by decide) ?_
    exact qr_n (c := 1) (by unfold k_free; rw [if_pos (by omega)]) (by decide) hM0 hK0 hF0
  · have q10 := xb_n0 c10
    refine g_iload_n dX6_free_13 rfl ?_
    refine f1_S (u' := 0) lX6_173 kX6_isDay (mX6_isDay (by omega)) dX6_free_14 rfl rfl rfl rfl rfl rfl ?_
    refine g_if_ne (tgt := 26) dX6_free_17 (by decide) (fun c17 => ?_) (fun c17 => ?_)
    · have q17 := xb_n0 c17
      refine g_iconst (v := 0) dX6_free_26 (by decide) ?_
      refine s_i (i := 3) dX6_free_27 rfl rfl rfl rfl ?_
      dsimp only [List.set]
      refine g_iconst (v := 0) dX6_free_28 (by decide) ?_
      refine s_iw dX6_free_29 rfl rfl rfl ?_
      dsimp only [List.set]
      exact wX6_free (l := l) (G := G) (h9 := h) hM0 hK0 hI hJ rfl q10 q17 7 0 (Nat.zero_le _) (by omega)
    · have q17 := xb_0.mp c17
      refine g_aload_n dX6_free_20 rfl ?_
      refine g_iconst (v := 1) dX6_free_21 (by decide) ?_
      refine f1_V (u' := 0) lX6_107 kX6_raises (mX6_raises) dX6_free_22 rfl rfl rfl rfl rfl rfl rfl rfl ?_
      refine g_ireturn dX6_free_25 rfl rfl (by decide) ?_
      exact qr_n (c := 1) (by unfold k_free; rw [if_pos (by omega)]) (by decide) hM0 hK0 hF0
set_option maxRecDepth 100000 in
theorem wX6_extreme {l : Launch} {G : ux_G} {h9 h : ux_H} {Hs : List Ab} {A : Ab} {P : Nat} (hM0 : rM 193 0 A h) (hK0 : rK Hs h) (hI : Inv P A) (hJ : InvF A) (eh : h = xsi h9 192 0 0) {b : Bool} (h0 : 0 < A.1) : ∀ (n : Nat) (j : Nat), 1 ≤ j → j ≤ A.1 → A.1 - j < n → ux_W l G iX6_extreme (ux_rm 7 0) (ux_Z G 0 (QR (k_spread A) (nI (s_ext A b A.1)) A Hs h9) (fun _ _ => False)) 22 [some (.ref 192), some (.int (if b then 1 else 0)), some (.int (nI (s_ext A b j))), some (.int (nI j)), none] [] (h) 0 := by
  intro n
  induction n with
  | zero => intro j hj0 hj hn; exact absurd hn (Nat.not_lt_zero _)
  | succ n ih =>
    intro j hj0 hj hn
    obtain ⟨i1, i2, i3, i4, i5, i6⟩ := id hI
    refine g_iload_n dX6_extreme_22 rfl ?_
    refine g_aload_n dX6_extreme_23 rfl ?_
    refine f1_V (u' := 0) lX6_62 kX6_teachers (mX6_teachers hM0) dX6_extreme_24 rfl rfl rfl rfl rfl rfl rfl rfl ?_
    refine g_icmp_ge (tgt := 80) dX6_extreme_27 (by decide) (fun c27 => ?_) (fun c27 => ?_)
    · have e : j = A.1 := by have := xlt_i c27 (by omega) (by omega); omega
      subst e
      refine g_iload_n dX6_extreme_80 rfl ?_
      refine g_ireturn dX6_extreme_81 rfl rfl (by decide) ?_
      subst eh
      exact qr_k (by unfold k_spread; rw [if_neg (by omega)]) (rfl) hM0 hK0
    · have hlt : j < A.1 := xnl_i c27 (by omega) (by omega)
      have ho : s_ext A b j < A.1 := by have := s_ext_r A b j; omega
      have t1 := i4 j hlt
      have t2 := i4 _ ho
      have s1 := s_share_r hI hlt (p := aF A 4 j) (B := 10000000) (by omega) (by omega)
      have s2 := s_share_r hI ho (p := aF A 4 (s_ext A b j)) (B := 10000000) (by omega) (by omega)
      refine g_aload_n dX6_extreme_30 rfl ?_
      refine g_iload_n dX6_extreme_31 rfl ?_
      refine g_aload_n dX6_extreme_32 rfl ?_
      refine g_iload_n dX6_extreme_33 rfl ?_
      refine g_iconst (v := 4) dX6_extreme_34 (by decide) ?_
      refine f1_V (u' := 0) lX6_70 kX6_by (mX6_by (f := 4) hM0 (by omega) rfl hlt) dX6_extreme_35 rfl rfl rfl rfl rfl rfl rfl rfl ?_
      refine f1_V (u' := 0) lX6_159 kX6_share (mX6_share hM0 hI (by omega) hlt) dX6_extreme_38 rfl rfl rfl rfl rfl rfl rfl rfl ?_
      refine g_aload_n dX6_extreme_41 rfl ?_
      refine g_iload_n dX6_extreme_42 rfl ?_
      refine g_aload_n dX6_extreme_43 rfl ?_
      refine g_iload_n dX6_extreme_44 rfl ?_
      refine g_iconst (v := 4) dX6_extreme_45 (by decide) ?_
      refine f1_V (u' := 0) lX6_70 kX6_by (mX6_by (f := 4) hM0 (by omega) rfl ho) dX6_extreme_46 rfl rfl rfl rfl rfl rfl rfl rfl ?_
      refine f1_V (u' := 0) lX6_159 kX6_share (mX6_share hM0 hI (by omega) ho) dX6_extreme_49 rfl rfl rfl rfl rfl rfl rfl rfl ?_
      refine g_isub dX6_extreme_52 ?_
      refine g_top (iI_sub _ _) ?_
      refine s_iw dX6_extreme_53 rfl rfl rfl ?_
      dsimp only [List.set]
      refine g_iload_n dX6_extreme_55 rfl ?_
      refine g_if_eq (tgt := 67) dX6_extreme_56 (by decide) (fun c56 => ?_) (fun c56 => ?_)
      · have qb : b = false := by cases b with | false => rfl | true => exact absurd c56 (by decide)
        refine g_iload dX6_extreme_67 rfl ?_
        refine g_if_ge (tgt := 74) dX6_extreme_69 (by decide) (fun c69 => ?_) (fun c69 => ?_)
        · rw [show (0 : Int32) = iI 0 by decide, iI_le (by omega) (by omega) (by omega) (by omega)] at c69
          refine s_inc (v := nI (j + 1)) dX6_extreme_74 rfl nI_s rfl rfl rfl ?_
          dsimp only [List.set]
          refine g_goto (tgt := 22) dX6_extreme_77 (by decide) ?_
          refine g_fg 4 rfl ?_
          dsimp only [List.set]
          have e0 : s_ext A b (j + 1) = if s_exc A b j (s_ext A b j) = true then j else s_ext A b j := by show (if j = 0 then _ else _) = _; rw [if_neg (by omega)]
          rw [if_neg (by unfold s_exc; first | (rw [if_pos qb]; exact fun y => absurd (of_decide_eq_true y) (by omega)) | (rw [if_neg (by rw [qb]; decide)]; exact fun y => absurd (of_decide_eq_true y) (by omega)))] at e0
          have ih9 := ih (j + 1) (by omega) (by omega) (by omega)
          rw [e0] at ih9
          exact ih9
        · rw [show (0 : Int32) = iI 0 by decide, iI_le (by omega) (by omega) (by omega) (by omega)] at c69
          refine g_iload_n dX6_extreme_72 rfl ?_
          refine s_i (i := 2) dX6_extreme_73 rfl rfl rfl rfl ?_
          dsimp only [List.set]
          refine s_inc (v := nI (j + 1)) dX6_extreme_74 rfl nI_s rfl rfl rfl ?_
          dsimp only [List.set]
          refine g_goto (tgt := 22) dX6_extreme_77 (by decide) ?_
          refine g_fg 4 rfl ?_
          dsimp only [List.set]
          have e0 : s_ext A b (j + 1) = if s_exc A b j (s_ext A b j) = true then j else s_ext A b j := by show (if j = 0 then _ else _) = _; rw [if_neg (by omega)]
          rw [if_pos (by unfold s_exc; first | (rw [if_pos qb]; exact decide_eq_true (by omega)) | (rw [if_neg (by rw [qb]; decide)]; exact decide_eq_true (by omega)))] at e0
          have ih9 := ih (j + 1) (by omega) (by omega) (by omega)
          rw [e0] at ih9
          exact ih9
      · have qb : b = true := by cases b with | true => rfl | false => exact absurd rfl c56
        refine g_iload dX6_extreme_59 rfl ?_
        refine g_if_le (tgt := 74) dX6_extreme_61 (by decide) (fun c61 => ?_) (fun c61 => ?_)
        · rw [show (0 : Int32) = iI 0 by decide, iI_le (by omega) (by omega) (by omega) (by omega)] at c61
          refine s_inc (v := nI (j + 1)) dX6_extreme_74 rfl nI_s rfl rfl rfl ?_
          dsimp only [List.set]
          refine g_goto (tgt := 22) dX6_extreme_77 (by decide) ?_
          refine g_fg 4 rfl ?_
          dsimp only [List.set]
          have e0 : s_ext A b (j + 1) = if s_exc A b j (s_ext A b j) = true then j else s_ext A b j := by show (if j = 0 then _ else _) = _; rw [if_neg (by omega)]
          rw [if_neg (by unfold s_exc; first | (rw [if_pos qb]; exact fun y => absurd (of_decide_eq_true y) (by omega)) | (rw [if_neg (by rw [qb]; decide)]; exact fun y => absurd (of_decide_eq_true y) (by omega)))] at e0
          have ih9 := ih (j + 1) (by omega) (by omega) (by omega)
          rw [e0] at ih9
          exact ih9
        · rw [show (0 : Int32) = iI 0 by decide, iI_le (by omega) (by omega) (by omega) (by omega)] at c61
          refine g_goto (tgt := 72) dX6_extreme_64 (by decide) ?_
          refine g_iload_n dX6_extreme_72 rfl ?_
          refine s_i (i := 2) dX6_extreme_73 rfl rfl rfl rfl ?_
          dsimp only [List.set]
          refine s_inc (v := nI (j + 1)) dX6_extreme_74 rfl nI_s rfl rfl rfl ?_
          dsimp only [List.set]
          refine g_goto (tgt := 22) dX6_extreme_77 (by decide) ?_
          refine g_fg 4 rfl ?_
          dsimp only [List.set]
          have e0 : s_ext A b (j + 1) = if s_exc A b j (s_ext A b j) = true then j else s_ext A b j := by show (if j = 0 then _ else _) = _; rw [if_neg (by omega)]
          rw [if_pos (by unfold s_exc; first | (rw [if_pos qb]; exact decide_eq_true (by omega)) | (rw [if_neg (by rw [qb]; decide)]; exact decide_eq_true (by omega)))] at e0
          have ih9 := ih (j + 1) (by omega) (by omega) (by omega)
          rw [e0] at ih9
          exact ih9
set_option maxRecDepth 100000 in
theorem mX6_extreme {l : Launch} {G : ux_G} {h : ux_H} {b : Bool} {Hs : List Ab} {A : Ab} {P : Nat} (hM : rM 193 0 A h) (hK : rK Hs h) (hI : Inv P A) (hJ : InvF A) : ux_M l G yX6_extreme iX6_extreme 7 0 [.ref 192, .int (if b then 1 else 0)] h (QR (k_spread A) (nI (s_ext A b A.1)) A Hs h) (fun _ _ => False) := by
  refine ux_ent (L' := [some (.ref 192), some (.int (if b then 1 else 0)), none, none, none]) kX6_extreme rfl rfl rfl rfl ?_
  obtain ⟨i1, i2, i3, i4, i5, i6⟩ := id hI
  refine g_aload_n dX6_extreme_0 rfl ?_
  refine g_iconst (v := 0) dX6_extreme_1 (by decide) ?_
  refine g_puti pX6_44 dX6_extreme_2 rfl rfl ?_
  have hM0 := rM_0t (j := 0) (x := 0) (Or.inl rfl) hM
  have hK0 := rK_0t (j := 0) (x := 0) (by decide) hK
  have hF0 := x_fN_0 h 0
  refine g_aload_n dX6_extreme_5 rfl ?_
  refine f1_V (u' := 0) lX6_62 kX6_teachers (mX6_teachers hM0) dX6_extreme_6 rfl rfl rfl rfl rfl rfl rfl rfl ?_
  refine g_if_ne (tgt := 18) dX6_extreme_9 (by decide) (fun c9 => ?_) (fun c9 => ?_)
  · have q9 : A.1 ≠ 0 := (not_congr (nI_eq0 (by omega))).mp c9
    refine g_iconst (v := 0) dX6_extreme_18 (by decide) ?_
    refine s_i (i := 2) dX6_extreme_19 rfl rfl rfl rfl ?_
    dsimp only [List.set]
    refine g_iconst (v := 1) dX6_extreme_20 (by decide) ?_
    refine s_i (i := 3) dX6_extreme_21 rfl rfl rfl rfl ?_
    dsimp only [List.set]
    have w9 := wX6_extreme (l := l) (G := G) (h9 := h) (b := b) hM0 hK0 hI hJ rfl (by omega) (A.1 + 1) 1 (Nat.le_refl _) (by omega) (by omega)
    rw [show s_ext A b 1 = 0 from rfl] at w9
    exact w9
  · have q9 : A.1 = 0 := (nI_eq0 (by omega)).mp c9
    refine g_aload_n dX6_extreme_12 rfl ?_
    refine g_iconst (v := 1) dX6_extreme_13 (by decide) ?_
    refine f1_V (u' := 0) lX6_107 kX6_raises (mX6_raises) dX6_extreme_14 rfl rfl rfl rfl rfl rfl rfl rfl ?_
    refine g_ireturn dX6_extreme_17 rfl rfl (by decide) ?_
    exact qr_n (c := 1) (by unfold k_spread; rw [if_pos q9]) (by decide) hM0 hK0 hF0
