/-! THE CLASS: public calls that change the school. -/
def x_frD (h h' : ux_H) : Prop := ∀ k, 16 ≤ k → (k < 48 ∨ 177 < k ∨ k = 176) → ∀ j, h' k j = h k j
theorem rC_frH {A : Ab} {h h' : ux_H} (hC : rC 0 A h) (hF : x_frH h h') : rC 0 A h' := rC_ne hC fun a _ h2 b => hF a (Or.inl (by omega)) b
theorem rH_fr {Hs : List Ab} {h h' : ux_H} (hH : rH Hs h) (hF : x_fr h h') : rH Hs h' := by
  obtain ⟨w, a, b, c, d, e⟩ := hH
  have g : ∀ k j, 16 ≤ k → xgi h' k j = xgi h k j := fun k j hk => by unfold xgi; rw [hF k hk j]
  exact ⟨w, a, (g 177 1 (by decide)).trans b, (g 177 2 (by decide)).trans c, d, fun k A q => rC_ne (e k A q) fun a1 h1 _ b => hF a1 (by omega) b⟩
theorem x_fin {Hs : List Ab} {h h1 h2 : ux_H} (hF1 : x_frH h h1) (hH1 : rH Hs h1) (hF2 : x_fr h1 h2) : rH Hs h2 ∧ x_frD h h2 :=
  ⟨rH_fr hH1 hF2, fun k a b j => (hF2 k a j).trans (hF1 k (by omega) j)⟩
def k_setLimit (A : Ab) (a b : Int) : Nat := if ¬ (0 ≤ a ∧ a < A.1) then 1 else if ¬ (0 ≤ b ∧ b ≤ 3) then 2 else 0
set_option maxRecDepth 100000 in
theorem mX5_setLimit {l : Launch} {G : ux_G} {h : ux_H} {a b : Int} {A : Ab} {P : Nat} (hC : rC 0 A h) (hI : Inv P A) (hJ : InvF A) {Hs : List Ab} (hH : rH Hs h) (hP : P + 3000 ≤ 10000000) (ra : -2147483648 ≤ a ∧ a ≤ 2147483647) (rb : -2147483648 ≤ b ∧ b ≤ 2147483647) : ux_M l G yX5_setLimit iX5_setLimit 5 3 [.ref 176, .int (iI a), .int (iI b)] h (fun v h' => v = some (.int (iI (aF A 3 a.toNat))) ∧ k_setLimit A a b = 0 ∧ rC 0 (aU A 3 a.toNat b) h' ∧ rH ((A :: Hs).take 8) h' ∧ x_frD h h') (fun E h' => h' = h ∧ xc (k_setLimit A a b) ["java/lang/IndexOutOfBoundsException", "java/lang/IllegalArgumentException"] E) := by
  refine ux_ent (L' := [some (.ref 176), some (.int (iI a)), some (.int (iI b))]) kX5_setLimit rfl rfl rfl rfl ?_
  obtain ⟨i1, i2, i3, i4, i5, i6⟩ := id hI
  obtain ⟨w, hw⟩ := hH
  refine g_aload_n dX5_setLimit_0 rfl ?_
  refine g_iload_n dX5_setLimit_1 rfl ?_
  refine q_V (u' := 1) lX5_92 kX5_needTeacher (mX5_needTeacher hC (by omega) (by omega) (by omega)) dX5_setLimit_2 rfl rfl rfl rfl rfl rfl rfl rfl (fun v h2 hq => ?_) (fun E hx q => g_out rfl (by decide) (by obtain ⟨rfl, rfl, q3⟩ := q; exact ⟨rfl, xc_mk (k := 1) (by unfold k_setLimit; (repeat' split) <;> first | rfl | omega | contradiction) (by decide) rfl⟩))
  obtain ⟨rfl, eh2, hq2⟩ := hq
  rw [eh2]
  have hta : a.toNat < A.1 := by omega
  rw [iI_get (a := a) (by omega) (by omega)]
  dsimp only [Option.toList, List.cons_append, List.nil_append]
  refine g_iload_n dX5_setLimit_5 rfl ?_
  refine g_iconst (v := 0) dX5_setLimit_6 (by decide) ?_
  refine g_iconst (v := 3) dX5_setLimit_7 (by decide) ?_
  refine q_S (u' := 2) lX5_70 kX5_needRange (mX5_needRange) dX5_setLimit_8 rfl rfl rfl rfl rfl rfl (fun v h8 hq => ?_) (fun E hx q => g_out rfl (by decide) (by obtain ⟨rfl, rfl, q3⟩ := q; have q3 := (not_congr (x_rg (a := b) (lo := 0) (hi := 3) (by decide) (by decide) rb (by decide) (by decide))).mp q3; exact ⟨rfl, xc_mk (k := 2) (by unfold k_setLimit; (repeat' split) <;> first | rfl | omega | contradiction) (by decide) rfl⟩))
  obtain ⟨rfl, eh8, hq8⟩ := hq
  rw [eh8]
  have hq8 := (x_rg (a := b) (lo := 0) (hi := 3) (by decide) (by decide) rb (by decide) (by decide)).mp hq8
  dsimp only [Option.toList, List.cons_append, List.nil_append]
  refine g_aload_n dX5_setLimit_11 rfl ?_
  refine g_getr (q := 177) fX5_25 dX5_setLimit_12 rfl rfl rfl ?_
  refine g_aload_n dX5_setLimit_15 rfl ?_
  refine g_getr (q := 0) fX5_10 dX5_setLimit_16 rfl rfl rfl ?_
  refine q_VN (u' := 2) lX5_84 kX0_remember (mX0_remember hC (by omega) (by omega) x_sc_0 (by decide) hw) dX5_setLimit_19 rfl rfl rfl rfl rfl rfl rfl rfl (fun v h19 hq => ?_)
  obtain ⟨rfl, hH1, hF1⟩ := hq
  have hC1 := rC_frH hC hF1
  dsimp only [Option.toList, List.cons_append, List.nil_append]
  refine g_aload_n dX5_setLimit_22 rfl ?_
  refine g_getr (q := 0) fX5_10 dX5_setLimit_23 rfl rfl rfl ?_
  refine g_getr (q := 3) fX5_96 dX5_setLimit_26 rfl rfl rfl ?_
  refine g_iload_n dX5_setLimit_29 rfl ?_
  refine g_iload_n dX5_setLimit_30 rfl ?_
  refine f1_S (u' := 2) lX5_100 kX5_swap (mX5_swap (k := 3) rfl (show _ < 8 by omega)) dX5_setLimit_31 rfl rfl rfl rfl rfl rfl ?_
  refine g_top (rC_t hC1 (by omega) (by decide) (by decide)) ?_
  refine g_ireturn dX5_setLimit_34 rfl rfl (by decide) ?_
  refine ⟨rfl, (by unfold k_setLimit; (repeat' split) <;> first | rfl | omega | contradiction), rC_aU (f := 3) hC1 rfl (by decide), x_fin hF1 hH1 (x_fr_si _ _ _ (by decide))⟩
def s_aSz (A : Ab) (c : Nat) (z : Int) : Bool := s_all (fun i => !decide (aF A 9 i = (c : Int)) || (!decide (s_st A i = 2) && decide (z + s_gst A i A.2.1 ≤ aF A 7 (aF A 12 i).toNat))) A.2.1
def s_aCp (A : Ab) (c : Nat) (z : Int) : Bool := s_all (fun i => !decide (aF A 12 i = (c : Int)) || decide (s_load A i ≤ z)) A.2.1
def s_aRm (A : Ab) (i c : Nat) : Bool := decide ((s_find A 12 (aF A 8 i) c = -1 ∨ s_find A 12 (aF A 8 i) c = i) ∧ s_load A i ≤ aF A 7 c)
theorem xb_n0 {p : Prop} [Decidable p] (c : ¬ ((if p then (1 : Int32) else 0) = 0)) : p := Decidable.not_not.mp ((not_congr xb_0).mp c)
def k_setSize (A : Ab) (a b : Int) : Nat := if ¬ (0 ≤ a ∧ a < 6) then 1 else if ¬ (1 ≤ b ∧ b ≤ 30) then 2 else if ¬ s_aSz A a.toNat b = true then 3 else 0
set_option maxRecDepth 100000 in
theorem mX5_setSize {l : Launch} {G : ux_G} {h : ux_H} {a b : Int} {A : Ab} {P : Nat} (hC : rC 0 A h) (hI : Inv P A) (hJ : InvF A) {Hs : List Ab} (hH : rH Hs h) (hP : P + 3000 ≤ 10000000) (ra : -2147483648 ≤ a ∧ a ≤ 2147483647) (rb : -2147483648 ≤ b ∧ b ≤ 2147483647) : ux_M l G yX5_setSize iX5_setSize 7 4 [.ref 176, .int (iI a), .int (iI b)] h (fun v h' => v = some (.int (iI (aF A 6 a.toNat))) ∧ k_setSize A a b = 0 ∧ rC 0 (aU A 6 a.toNat b) h' ∧ rH ((A :: Hs).take 8) h' ∧ x_frD h h') (fun E h' => h' = h ∧ xc (k_setSize A a b) ["java/lang/IndexOutOfBoundsException", "java/lang/IllegalArgumentException", "java/lang/IllegalStateException"] E) := by
  refine ux_ent (L' := [some (.ref 176), some (.int (iI a)), some (.int (iI b))]) kX5_setSize rfl rfl rfl rfl ?_
  obtain ⟨i1, i2, i3, i4, i5, i6⟩ := id hI
  obtain ⟨w, hw⟩ := hH
  refine g_iload_n dX5_setSize_0 rfl ?_
  refine g_bipush (v := 6) dX5_setSize_1 (by decide) ?_
  refine q_S (u' := 1) lX5_104 kX5_needIndex (mX5_needIndex) dX5_setSize_3 rfl rfl rfl rfl rfl rfl (fun v h3 hq => ?_) (fun E hx q => g_out rfl (by decide) (by obtain ⟨rfl, rfl, q3⟩ := q; have q3 := (not_congr (x_ix (a := a) (n := 6) (by decide) ra (by decide))).mp q3; exact ⟨rfl, xc_mk (k := 1) (by unfold k_setSize; (repeat' split) <;> first | rfl | omega | contradiction) (by decide) rfl⟩))
  obtain ⟨rfl, eh3, hq3⟩ := hq
  rw [eh3]
  have hq3 := (x_ix (a := a) (n := 6) (by decide) ra (by decide)).mp hq3
  have hta : a.toNat < 6 := by omega
  rw [iI_get (a := a) (by omega) (by omega)]
  dsimp only [Option.toList, List.cons_append, List.nil_append]
  refine g_iload_n dX5_setSize_6 rfl ?_
  refine g_iconst (v := 1) dX5_setSize_7 (by decide) ?_
  refine g_bipush (v := 30) dX5_setSize_8 (by decide) ?_
  refine q_S (u' := 2) lX5_70 kX5_needRange (mX5_needRange) dX5_setSize_10 rfl rfl rfl rfl rfl rfl (fun v h10 hq => ?_) (fun E hx q => g_out rfl (by decide) (by obtain ⟨rfl, rfl, q3⟩ := q; have q3 := (not_congr (x_rg (a := b) (lo := 1) (hi := 30) (by decide) (by decide) rb (by decide) (by decide))).mp q3; exact ⟨rfl, xc_mk (k := 2) (by unfold k_setSize; (repeat' split) <;> first | rfl | omega | contradiction) (by decide) rfl⟩))
  obtain ⟨rfl, eh10, hq10⟩ := hq
  rw [eh10]
  have hq10 := (x_rg (a := b) (lo := 1) (hi := 30) (by decide) (by decide) rb (by decide) (by decide)).mp hq10
  dsimp only [Option.toList, List.cons_append, List.nil_append]
  refine g_aload_n dX5_setSize_13 rfl ?_
  refine g_getr (q := 0) fX5_10 dX5_setSize_14 rfl rfl rfl ?_
  refine g_iload_n dX5_setSize_17 rfl ?_
  refine g_iload_n dX5_setSize_18 rfl ?_
  refine f1_VN (u' := 2) lX5_108 kX4_allowsSize (mX4_allowsSize hC hI hJ hta (by omega)) dX5_setSize_19 rfl rfl rfl rfl rfl rfl rfl rfl ?_
  refine g_if_ne (tgt := 35) dX5_setSize_22 (by decide) (fun c22 => ?_) (fun c22 => ?_)
  · have q22 : s_aSz A a.toNat b = true := xb_n0 c22
    refine g_aload_n dX5_setSize_35 rfl ?_
    refine g_getr (q := 177) fX5_25 dX5_setSize_36 rfl rfl rfl ?_
    refine g_aload_n dX5_setSize_39 rfl ?_
    refine g_getr (q := 0) fX5_10 dX5_setSize_40 rfl rfl rfl ?_
    refine q_VN (u' := 2) lX5_84 kX0_remember (mX0_remember hC (by omega) (by omega) x_sc_0 (by decide) hw) dX5_setSize_43 rfl rfl rfl rfl rfl rfl rfl rfl (fun v h43 hq => ?_)
    obtain ⟨rfl, hH1, hF1⟩ := hq
    have hC1 := rC_frH hC hF1
    dsimp only [Option.toList, List.cons_append, List.nil_append]
    refine g_aload_n dX5_setSize_46 rfl ?_
    refine g_getr (q := 0) fX5_10 dX5_setSize_47 rfl rfl rfl ?_
    refine g_getr (q := 6) fX5_114 dX5_setSize_50 rfl rfl rfl ?_
    refine g_iload_n dX5_setSize_53 rfl ?_
    refine g_iload_n dX5_setSize_54 rfl ?_
    refine f1_S (u' := 2) lX5_100 kX5_swap (mX5_swap (k := 6) rfl (show _ < 6 by omega)) dX5_setSize_55 rfl rfl rfl rfl rfl rfl ?_
    refine g_top (rC_c hC1 (by omega) (by decide) (by decide)) ?_
    refine g_ireturn dX5_setSize_58 rfl rfl (by decide) ?_
    refine ⟨rfl, (by unfold k_setSize; (repeat' split) <;> first | rfl | omega | contradiction), rC_aU (f := 6) hC1 rfl (by decide), x_fin hF1 hH1 (x_fr_si _ _ _ (by decide))⟩
  · have q22 : ¬ s_aSz A a.toNat b = true := xb_0.mp c22
    refine g_throw tX5_112_81 dX5_setSize_25 dX5_setSize_28 dX5_setSize_29 dX5_setSize_31 dX5_setSize_34 rfl rfl (by decide) ?_
    exact ⟨rfl, xc_mk (k := 3) (by unfold k_setSize; (repeat' split) <;> first | rfl | omega | contradiction) (by decide) rfl⟩
def k_setCapacity (A : Ab) (a b : Int) : Nat := if ¬ (0 ≤ a ∧ a < 6) then 1 else if ¬ (10 ≤ b ∧ b ≤ 60) then 2 else if ¬ s_aCp A a.toNat b = true then 3 else 0
set_option maxRecDepth 100000 in
theorem mX5_setCapacity {l : Launch} {G : ux_G} {h : ux_H} {a b : Int} {A : Ab} {P : Nat} (hC : rC 0 A h) (hI : Inv P A) (hJ : InvF A) {Hs : List Ab} (hH : rH Hs h) (hP : P + 3000 ≤ 10000000) (ra : -2147483648 ≤ a ∧ a ≤ 2147483647) (rb : -2147483648 ≤ b ∧ b ≤ 2147483647) : ux_M l G yX5_setCapacity iX5_setCapacity 7 4 [.ref 176, .int (iI a), .int (iI b)] h (fun v h' => v = some (.int (iI (aF A 7 a.toNat))) ∧ k_setCapacity A a b = 0 ∧ rC 0 (aU A 7 a.toNat b) h' ∧ rH ((A :: Hs).take 8) h' ∧ x_frD h h') (fun E h' => h' = h ∧ xc (k_setCapacity A a b) ["java/lang/IndexOutOfBoundsException", "java/lang/IllegalArgumentException", "java/lang/IllegalStateException"] E) := by
  refine ux_ent (L' := [some (.ref 176), some (.int (iI a)), some (.int (iI b))]) kX5_setCapacity rfl rfl rfl rfl ?_
  obtain ⟨i1, i2, i3, i4, i5, i6⟩ := id hI
  obtain ⟨w, hw⟩ := hH
  refine g_iload_n dX5_setCapacity_0 rfl ?_
  refine g_bipush (v := 6) dX5_setCapacity_1 (by decide) ?_
  refine q_S (u' := 1) lX5_104 kX5_needIndex (mX5_needIndex) dX5_setCapacity_3 rfl rfl rfl rfl rfl rfl (fun v h3 hq => ?_) (fun E hx q => g_out rfl (by decide) (by obtain ⟨rfl, rfl, q3⟩ := q; have q3 := (not_congr (x_ix (a := a) (n := 6) (by decide) ra (by decide))).mp q3; exact ⟨rfl, xc_mk (k := 1) (by unfold k_setCapacity; (repeat' split) <;> first | rfl | omega | contradiction) (by decide) rfl⟩))
  obtain ⟨rfl, eh3, hq3⟩ := hq
  rw [eh3]
  have hq3 := (x_ix (a := a) (n := 6) (by decide) ra (by decide)).mp hq3
  have hta : a.toNat < 6 := by omega
  rw [iI_get (a := a) (by omega) (by omega)]
  dsimp only [Option.toList, List.cons_append, List.nil_append]
  refine g_iload_n dX5_setCapacity_6 rfl ?_
  refine g_bipush (v := 10) dX5_setCapacity_7 (by decide) ?_
  refine g_bipush (v := 60) dX5_setCapacity_9 (by decide) ?_
  refine q_S (u' := 2) lX5_70 kX5_needRange (mX5_needRange) dX5_setCapacity_11 rfl rfl rfl rfl rfl rfl (fun v h11 hq => ?_) (fun E hx q => g_out rfl (by decide) (by obtain ⟨rfl, rfl, q3⟩ := q; have q3 := (not_congr (x_rg (a := b) (lo := 10) (hi := 60) (by decide) (by decide) rb (by decide) (by decide))).mp q3; exact ⟨rfl, xc_mk (k := 2) (by unfold k_setCapacity; (repeat' split) <;> first | rfl | omega | contradiction) (by decide) rfl⟩))
  obtain ⟨rfl, eh11, hq11⟩ := hq
  rw [eh11]
  have hq11 := (x_rg (a := b) (lo := 10) (hi := 60) (by decide) (by decide) rb (by decide) (by decide)).mp hq11
  dsimp only [Option.toList, List.cons_append, List.nil_append]
  refine g_aload_n dX5_setCapacity_14 rfl ?_
  refine g_getr (q := 0) fX5_10 dX5_setCapacity_15 rfl rfl rfl ?_
  refine g_iload_n dX5_setCapacity_18 rfl ?_
  refine g_iload_n dX5_setCapacity_19 rfl ?_
  refine f1_VN (u' := 2) lX5_117 kX4_allowsCapacity (mX4_allowsCapacity hC hI hta (by omega)) dX5_setCapacity_20 rfl rfl rfl rfl rfl rfl rfl rfl ?_
  refine g_if_ne (tgt := 36) dX5_setCapacity_23 (by decide) (fun c23 => ?_) (fun c23 => ?_)
  · have q23 : s_aCp A a.toNat b = true := xb_n0 c23
    refine g_aload_n dX5_setCapacity_36 rfl ?_
    refine g_getr (q := 177) fX5_25 dX5_setCapacity_37 rfl rfl rfl ?_
    refine g_aload_n dX5_setCapacity_40 rfl ?_
    refine g_getr (q := 0) fX5_10 dX5_setCapacity_41 rfl rfl rfl ?_
    refine q_VN (u' := 2) lX5_84 kX0_remember (mX0_remember hC (by omega) (by omega) x_sc_0 (by decide) hw) dX5_setCapacity_44 rfl rfl rfl rfl rfl rfl rfl rfl (fun v h44 hq => ?_)
    obtain ⟨rfl, hH1, hF1⟩ := hq
    have hC1 := rC_frH hC hF1
    dsimp only [Option.toList, List.cons_append, List.nil_append]
    refine g_aload_n dX5_setCapacity_47 rfl ?_
    refine g_getr (q := 0) fX5_10 dX5_setCapacity_48 rfl rfl rfl ?_
    refine g_getr (q := 7) fX5_122 dX5_setCapacity_51 rfl rfl rfl ?_
    refine g_iload_n dX5_setCapacity_54 rfl ?_
    refine g_iload_n dX5_setCapacity_55 rfl ?_
    refine f1_S (u' := 2) lX5_100 kX5_swap (mX5_swap (k := 7) rfl (show _ < 6 by omega)) dX5_setCapacity_56 rfl rfl rfl rfl rfl rfl ?_
    refine g_top (rC_c hC1 (by omega) (by decide) (by decide)) ?_
    refine g_ireturn dX5_setCapacity_59 rfl rfl (by decide) ?_
    refine ⟨rfl, (by unfold k_setCapacity; (repeat' split) <;> first | rfl | omega | contradiction), rC_aU (f := 7) hC1 rfl (by decide), x_fin hF1 hH1 (x_fr_si _ _ _ (by decide))⟩
  · have q23 : ¬ s_aCp A a.toNat b = true := xb_0.mp c23
    refine g_throw tX5_120_81 dX5_setCapacity_26 dX5_setCapacity_29 dX5_setCapacity_30 dX5_setCapacity_32 dX5_setCapacity_35 rfl rfl (by decide) ?_
    exact ⟨rfl, xc_mk (k := 3) (by unfold k_setCapacity; (repeat' split) <;> first | rfl | omega | contradiction) (by decide) rfl⟩
def k_setRoom (A : Ab) (a b : Int) : Nat := if ¬ (0 ≤ a ∧ a < A.2.1) then 1 else if ¬ (0 ≤ b ∧ b ≤ 5) then 2 else if ¬ s_aRm A a.toNat b.toNat = true then 3 else 0
set_option maxRecDepth 100000 in
theorem mX5_setRoom {l : Launch} {G : ux_G} {h : ux_H} {a b : Int} {A : Ab} {P : Nat} (hC : rC 0 A h) (hI : Inv P A) (hJ : InvF A) {Hs : List Ab} (hH : rH Hs h) (hP : P + 3000 ≤ 10000000) (ra : -2147483648 ≤ a ∧ a ≤ 2147483647) (rb : -2147483648 ≤ b ∧ b ≤ 2147483647) : ux_M l G yX5_setRoom iX5_setRoom 8 4 [.ref 176, .int (iI a), .int (iI b)] h (fun v h' => v = some (.int (iI (aF A 12 a.toNat))) ∧ k_setRoom A a b = 0 ∧ rC 0 (aU A 12 a.toNat b) h' ∧ rH ((A :: Hs).take 8) h' ∧ x_frD h h') (fun E h' => h' = h ∧ xc (k_setRoom A a b) ["java/lang/IndexOutOfBoundsException", "java/lang/IllegalArgumentException", "java/lang/IllegalStateException"] E) := by
  refine ux_ent (L' := [some (.ref 176), some (.int (iI a)), some (.int (iI b))]) kX5_setRoom rfl rfl rfl rfl ?_
  obtain ⟨i1, i2, i3, i4, i5, i6⟩ := id hI
  obtain ⟨w, hw⟩ := hH
  refine g_aload_n dX5_setRoom_0 rfl ?_
  refine g_iload_n dX5_setRoom_1 rfl ?_
  refine q_V (u' := 1) lX5_144 kX5_needLesson (mX5_needLesson hC (by omega) (by omega) (by omega)) dX5_setRoom_2 rfl rfl rfl rfl rfl rfl rfl rfl (fun v h2 hq => ?_) (fun E hx q => g_out rfl (by decide) (by obtain ⟨rfl, rfl, q3⟩ := q; exact ⟨rfl, xc_mk (k := 1) (by unfold k_setRoom; (repeat' split) <;> first | rfl | omega | contradiction) (by decide) rfl⟩))
  obtain ⟨rfl, eh2, hq2⟩ := hq
  rw [eh2]
  have hta : a.toNat < A.2.1 := by omega
  rw [iI_get (a := a) (by omega) (by omega)]
  dsimp only [Option.toList, List.cons_append, List.nil_append]
  refine g_iload_n dX5_setRoom_5 rfl ?_
  refine g_iconst (v := 0) dX5_setRoom_6 (by decide) ?_
  refine g_iconst (v := 5) dX5_setRoom_7 (by decide) ?_
  refine q_S (u' := 2) lX5_70 kX5_needRange (mX5_needRange) dX5_setRoom_8 rfl rfl rfl rfl rfl rfl (fun v h8 hq => ?_) (fun E hx q => g_out rfl (by decide) (by obtain ⟨rfl, rfl, q3⟩ := q; have q3 := (not_congr (x_rg (a := b) (lo := 0) (hi := 5) (by decide) (by decide) rb (by decide) (by decide))).mp q3; exact ⟨rfl, xc_mk (k := 2) (by unfold k_setRoom; (repeat' split) <;> first | rfl | omega | contradiction) (by decide) rfl⟩))
  obtain ⟨rfl, eh8, hq8⟩ := hq
  rw [eh8]
  have hq8 := (x_rg (a := b) (lo := 0) (hi := 5) (by decide) (by decide) rb (by decide) (by decide)).mp hq8
  dsimp only [Option.toList, List.cons_append, List.nil_append]
  refine g_aload_n dX5_setRoom_11 rfl ?_
  refine g_getr (q := 0) fX5_10 dX5_setRoom_12 rfl rfl rfl ?_
  refine g_iload_n dX5_setRoom_15 rfl ?_
  refine g_iload_n dX5_setRoom_16 rfl ?_
  refine g_top (iI_get (a := b) (by omega) (by omega)) ?_
  refine f1_VN (u' := 2) lX5_150 kX4_allowsRoom (mX4_allowsRoom hC hI hta (show b.toNat < 6 by omega)) dX5_setRoom_17 rfl rfl rfl rfl rfl rfl rfl rfl ?_
  refine g_if_ne (tgt := 33) dX5_setRoom_20 (by decide) (fun c20 => ?_) (fun c20 => ?_)
  · have q20 : s_aRm A a.toNat b.toNat = true := decide_eq_true (xb_n0 c20)
    refine g_aload_n dX5_setRoom_33 rfl ?_
    refine g_getr (q := 177) fX5_25 dX5_setRoom_34 rfl rfl rfl ?_
    refine g_aload_n dX5_setRoom_37 rfl ?_
    refine g_getr (q := 0) fX5_10 dX5_setRoom_38 rfl rfl rfl ?_
    refine q_VN (u' := 2) lX5_84 kX0_remember (mX0_remember hC (by omega) (by omega) x_sc_0 (by decide) hw) dX5_setRoom_41 rfl rfl rfl rfl rfl rfl rfl rfl (fun v h41 hq => ?_)
    obtain ⟨rfl, hH1, hF1⟩ := hq
    have hC1 := rC_frH hC hF1
    dsimp only [Option.toList, List.cons_append, List.nil_append]
    refine g_aload_n dX5_setRoom_44 rfl ?_
    refine g_getr (q := 0) fX5_10 dX5_setRoom_45 rfl rfl rfl ?_
    refine g_getr (q := 12) fX5_155 dX5_setRoom_48 rfl rfl rfl ?_
    refine g_iload_n dX5_setRoom_51 rfl ?_
    refine g_iload_n dX5_setRoom_52 rfl ?_
    refine f1_S (u' := 2) lX5_100 kX5_swap (mX5_swap (k := 12) rfl (show _ < 40 by omega)) dX5_setRoom_53 rfl rfl rfl rfl rfl rfl ?_
    refine g_top (rC_l hC1 (by omega) (by decide) (by decide)) ?_
    refine g_ireturn dX5_setRoom_56 rfl rfl (by decide) ?_
    refine ⟨rfl, (by unfold k_setRoom; (repeat' split) <;> first | rfl | omega | contradiction), rC_aU (f := 12) hC1 rfl (by decide), x_fin hF1 hH1 (x_fr_si _ _ _ (by decide))⟩
  · have q20 : ¬ s_aRm A a.toNat b.toNat = true := fun y => xb_0.mp c20 (of_decide_eq_true y)
    refine g_throw tX5_153_81 dX5_setRoom_23 dX5_setRoom_26 dX5_setRoom_27 dX5_setRoom_29 dX5_setRoom_32 rfl rfl (by decide) ?_
    exact ⟨rfl, xc_mk (k := 3) (by unfold k_setRoom; (repeat' split) <;> first | rfl | omega | contradiction) (by decide) rfl⟩
def k_addTeacher (A : Ab) (a b : Int) : Nat := if ¬ (1 ≤ a ∧ a ≤ 63) ∨ ¬ (1 ≤ b ∧ b ≤ 4) then 1 else if ¬ A.1 < 8 then 2 else 0
set_option maxRecDepth 100000 in
theorem mX5_addTeacher {l : Launch} {G : ux_G} {h : ux_H} {a b : Int} {A : Ab} {P : Nat} (hC : rC 0 A h) (hI : Inv P A) (hJ : InvF A) {Hs : List Ab} (hH : rH Hs h) (hP : P + 3000 ≤ 10000000) (ra : -2147483648 ≤ a ∧ a ≤ 2147483647) (rb : -2147483648 ≤ b ∧ b ≤ 2147483647) : ux_M l G yX5_addTeacher iX5_addTeacher 5 3 [.ref 176, .int (iI a), .int (iI b)] h (fun v h' => v = some (.int (nI A.1)) ∧ k_addTeacher A a b = 0 ∧ rC 0 (s_putT A a b) h' ∧ rH ((A :: Hs).take 8) h' ∧ x_frD h h') (fun E h' => h' = h ∧ xc (k_addTeacher A a b) ["java/lang/IllegalArgumentException", "java/lang/IllegalStateException"] E) := by
  refine ux_ent (L' := [some (.ref 176), some (.int (iI a)), some (.int (iI b))]) kX5_addTeacher rfl rfl rfl rfl ?_
  obtain ⟨i1, i2, i3, i4, i5, i6⟩ := id hI
  obtain ⟨w, hw⟩ := hH
  refine g_iload_n dX5_addTeacher_0 rfl ?_
  refine g_iconst (v := 1) dX5_addTeacher_1 (by decide) ?_
  refine g_bipush (v := 63) dX5_addTeacher_2 (by decide) ?_
  refine q_S (u' := 1) lX5_70 kX5_needRange (mX5_needRange) dX5_addTeacher_4 rfl rfl rfl rfl rfl rfl (fun v h4 hq => ?_) (fun E hx q => g_out rfl (by decide) (by obtain ⟨rfl, rfl, q3⟩ := q; have q3 := (not_congr (x_rg (a := a) (lo := 1) (hi := 63) (by decide) (by decide) ra (by decide) (by decide))).mp q3; exact ⟨rfl, xc_mk (k := 1) (by unfold k_addTeacher; (repeat' split) <;> first | rfl | omega | contradiction) (by decide) rfl⟩))
  obtain ⟨rfl, eh4, hq4⟩ := hq
  rw [eh4]
  have hq4 := (x_rg (a := a) (lo := 1) (hi := 63) (by decide) (by decide) ra (by decide) (by decide)).mp hq4
  dsimp only [Option.toList, List.cons_append, List.nil_append]
  refine g_iload_n dX5_addTeacher_7 rfl ?_
  refine g_iconst (v := 1) dX5_addTeacher_8 (by decide) ?_
  refine g_iconst (v := 4) dX5_addTeacher_9 (by decide) ?_
  refine q_S (u' := 2) lX5_70 kX5_needRange (mX5_needRange) dX5_addTeacher_10 rfl rfl rfl rfl rfl rfl (fun v h10 hq => ?_) (fun E hx q => g_out rfl (by decide) (by obtain ⟨rfl, rfl, q3⟩ := q; have q3 := (not_congr (x_rg (a := b) (lo := 1) (hi := 4) (by decide) (by decide) rb (by decide) (by decide))).mp q3; exact ⟨rfl, xc_mk (k := 1) (by unfold k_addTeacher; (repeat' split) <;> first | rfl | omega | contradiction) (by decide) rfl⟩))
  obtain ⟨rfl, eh10, hq10⟩ := hq
  rw [eh10]
  have hq10 := (x_rg (a := b) (lo := 1) (hi := 4) (by decide) (by decide) rb (by decide) (by decide)).mp hq10
  dsimp only [Option.toList, List.cons_append, List.nil_append]
  refine g_aload_n dX5_addTeacher_13 rfl ?_
  refine g_getr (q := 0) fX5_10 dX5_addTeacher_14 rfl rfl rfl ?_
  refine g_geti fX5_74 dX5_addTeacher_17 rfl rfl ?_
  refine g_top hC.1 ?_
  refine g_bipush (v := 8) dX5_addTeacher_20 (by decide) ?_
  refine g_icmp_lt (tgt := 35) dX5_addTeacher_22 (by decide) (fun c22 => ?_) (fun c22 => ?_)
  · have q22 : A.1 < 8 := by rw [nI_iI, show (8 : Int32) = iI 8 by decide, iI_lt (by omega) (by omega) (by omega) (by omega)] at c22; omega
    refine g_aload_n dX5_addTeacher_35 rfl ?_
    refine g_getr (q := 177) fX5_25 dX5_addTeacher_36 rfl rfl rfl ?_
    refine g_aload_n dX5_addTeacher_39 rfl ?_
    refine g_getr (q := 0) fX5_10 dX5_addTeacher_40 rfl rfl rfl ?_
    refine q_VN (u' := 2) lX5_84 kX0_remember (mX0_remember hC (by omega) (by omega) x_sc_0 (by decide) hw) dX5_addTeacher_43 rfl rfl rfl rfl rfl rfl rfl rfl (fun v h43 hq => ?_)
    obtain ⟨rfl, hH1, hF1⟩ := hq
    have hC1 := rC_frH hC hF1
    dsimp only [Option.toList, List.cons_append, List.nil_append]
    refine g_aload_n dX5_addTeacher_46 rfl ?_
    refine g_getr (q := 0) fX5_10 dX5_addTeacher_47 rfl rfl rfl ?_
    refine g_iload_n dX5_addTeacher_50 rfl ?_
    refine g_iload_n dX5_addTeacher_51 rfl ?_
    refine f1_VN (u' := 2) lX5_88 kX4_putTeacher (mX4_putTeacher hC1 q22) dX5_addTeacher_52 rfl rfl rfl rfl rfl rfl rfl rfl ?_
    refine g_ireturn dX5_addTeacher_55 rfl rfl (by decide) ?_
    refine ⟨rfl, (by unfold k_addTeacher; (repeat' split) <;> first | rfl | omega | contradiction), rC_putT hC1 a b, x_fin hF1 hH1 (x_fr_putT _ _ _ _)⟩
  · have q22 : ¬ A.1 < 8 := by rw [nI_iI, show (8 : Int32) = iI 8 by decide, iI_lt (by omega) (by omega) (by omega) (by omega)] at c22; omega
    refine g_throw tX5_79_81 dX5_addTeacher_25 dX5_addTeacher_28 dX5_addTeacher_29 dX5_addTeacher_31 dX5_addTeacher_34 rfl rfl (by decide) ?_
    exact ⟨rfl, xc_mk (k := 2) (by unfold k_addTeacher; (repeat' split) <;> first | rfl | omega | contradiction) (by decide) rfl⟩
