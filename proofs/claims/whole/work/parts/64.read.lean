/-! THE CLASS: read. -/
theorem rH_ne {Hs : List Ab} {h h' : ux_H} (hH : rH Hs h) (hF : ∀ k, 48 ≤ k → k < 178 → k ≠ 176 → ∀ j, h' k j = h k j) : rH Hs h' := by
  obtain ⟨w, a, b, c, d, e⟩ := hH
  have g : ∀ j, xgi h' 177 j = xgi h 177 j := fun j => by unfold xgi; rw [hF 177 (by decide) (by decide) (by decide) j]
  exact ⟨w, a, (g 1).trans b, (g 2).trans c, d, fun k A q => rC_ne (e k A q) fun a1 h1 h2 b => hF a1 (by omega) (by omega) (by omega) b⟩
def x_frQ (h h' : ux_H) : Prop := ∀ k j, ((16 ≤ k ∧ k < 32) ∨ k = 176 ∨ (178 ≤ k ∧ k ≠ 188)) → h' k j = h k j
def x_frR (h h' : ux_H) : Prop := ∀ k j, ((16 ≤ k ∧ k < 32) ∨ (k = 176 ∧ j ≠ 9) ∨ (178 ≤ k ∧ k ≠ 188)) → h' k j = h k j
theorem x_frQ_tr {h h1 h2 : ux_H} (a : x_frQ h h1) (b : x_frQ h1 h2) : x_frQ h h2 := fun k j q => (b k j q).trans (a k j q)
theorem x_frQ_N {h h' : ux_H} (a : x_frN h h') : x_frQ h h' := fun k j q => a k j (by omega)
theorem x_frQ_T {h h' : ux_H} (a : x_frT h h') : x_frQ h h' := fun k j q => a k j (by omega) (by omega)
theorem x_frQ_H {h h' : ux_H} (a : x_frH h h') : x_frQ h h' := fun k j q => a k (by omega) j
theorem x_frQ_1 (h : ux_H) (x : Int32) : x_frQ h (xsi h 188 1 x) := fun k j q => by unfold xsi xsv; rw [if_neg (by omega)]
theorem x_frQ_a (h : ux_H) : x_frQ h (x_cp h 32 0) := fun k j q => x_cp_ne h 32 0 (by omega) j
theorem x_frQ_b (h : ux_H) : x_frQ h (x_cp h 0 32) := fun k j q => x_cp_ne h 0 32 (by omega) j
theorem rI_nil {h : ux_H} (h1 : xgi h 188 1 = 0) : rI [] h := ⟨h1, by decide, (fun v hv => by cases hv), (fun j v hv => by simp at hv)⟩
def k_read (A : Ab) (L : List Nat) : Nat := if s_fe L 70 0 ≠ -1 then 1 else if s_tell L 70 A 0 0 = none then 2 else 0
def s_tel2 (A : Ab) (L : List Nat) (P : Nat) (h' : ux_H) (z : Int) : Prop :=
  (∃ A' n, s_tell L 70 A 0 0 = some (A', n) ∧ z = (n : Nat) ∧ n ≤ 70 ∧ rC 0 A' h' ∧ Inv (P + 12040) A' ∧ InvF A') ∨ (s_tell L 70 A 0 0 = none ∧ z = -1)
theorem s_telZ {A : Ab} {L : List Nat} {P : Nat} {h h' : ux_H} {v : Option Value} (q : s_telQ A L P h v h') : ∃ z : Int, v = some (.int (iI z)) ∧ (-1 ≤ z ∧ z ≤ 70) ∧ rI L h' ∧ x_frT h h' ∧ s_tel2 A L P h' z := by
  obtain ⟨a, b, c⟩ := q
  rcases c with ⟨A', n, c1, c2, c3, c4⟩ | ⟨c1, c2⟩
  · exact ⟨n, by rw [c2, iI_n], by omega, a, b, Or.inl ⟨A', n, c1, rfl, c3, c4⟩⟩
  · exact ⟨-1, by rw [c2, ← iI_m1], by omega, a, b, Or.inr ⟨c1, rfl⟩⟩
theorem s_fe_r (L : List Nat) : ∀ (n p : Nat), p ≤ L.length → -1 ≤ s_fe L n p ∧ s_fe L n p ≤ L.length := by
  intro n
  induction n with
  | zero => intro p _; show -1 ≤ s_fin L ∧ s_fin L ≤ L.length; unfold s_fin; split <;> omega
  | succ n ih =>
    intro p hp
    by_cases q : p < L.length
    · have tl := s_tE_le hp
      by_cases q2 : (s_tE L p).1 = true
      · rw [s_fe_s q q2]; exact ih _ tl.2.1
      · rw [s_fe_f q q2]; omega
    · rw [s_fe_n _ q]; unfold s_fin; split <;> omega
set_option maxRecDepth 100000 in
theorem mX5_read {l : Launch} {G : ux_G} {h : ux_H} {L : List Nat} (hL : rI L h) {A : Ab} {P : Nat} (hC : rC 0 A h) (hI : Inv P A) (hJ : InvF A) {Hs : List Ab} (hH : rH Hs h) (hP : P + 13000 ≤ 10000000) : ux_M l G yX5_read iX5_read 10 1 [.ref 176] h (fun v h' => ∃ A' n, s_tell L 70 A 0 0 = some (A', n) ∧ v = some (.int (nI n)) ∧ k_read A L = 0 ∧ rC 0 A' h' ∧ Inv (P + 12040) A' ∧ InvF A' ∧ rH ((A :: Hs).take 8) h' ∧ rI [] h' ∧ x_frQ h h') (fun E h' => xc (k_read A L) ["java/lang/IllegalArgumentException", "java/lang/IllegalStateException"] E ∧ rC 0 A h' ∧ rH Hs h' ∧ rI [] h' ∧ x_frR h h' ∧ xgi h' 176 9 = if k_read A L = 1 then iI (s_fe L 70 0) else xgi h 176 9) := by
  refine ux_ent (L' := [some (.ref 176), none, none]) kX5_read rfl rfl rfl rfl ?_
  obtain ⟨i1, i2, i3, i4, i5, i6⟩ := id hI
  have fr := s_fe_r L 70 0 (Nat.zero_le _)
  have h70 := hL.2.1
  refine g_aload_n dX5_read_0 rfl ?_
  refine g_getr (q := 188) fX5_39 dX5_read_1 rfl rfl rfl ?_
  refine q_VN (u' := 0) lX5_371 kX1_firstError (mX1_firstError hL) dX5_read_4 rfl rfl rfl rfl rfl rfl rfl rfl (fun v h4 hq => ?_)
  obtain ⟨rfl, hL, hF4⟩ := hq
  have hC := rC_frN hC hF4
  have hH := rH_ne hH (fun k k1 k2 _ j => hF4 k j (by omega))
  have hQ := x_frQ_N hF4
  dsimp only [Option.toList, List.cons_append, List.nil_append]
  refine s_i (i := 1) dX5_read_7 rfl rfl rfl rfl ?_
  dsimp only [List.set]
  refine g_iload_n dX5_read_8 rfl ?_
  refine g_iconst (v := (-1)) dX5_read_9 (by decide) ?_
  refine g_icmp_eq (tgt := 37) dX5_read_10 (by decide) (fun c10 => ?_) (fun c10 => ?_)
  · rw [xqm (by omega) (by omega)] at c10
    refine g_aload_n dX5_read_37 rfl ?_
    refine g_getr (q := 32) fX5_19 dX5_read_38 rfl rfl rfl ?_
    refine g_aload_n dX5_read_41 rfl ?_
    refine g_getr (q := 0) fX5_10 dX5_read_42 rfl rfl rfl ?_
    refine f0_VN (u' := 0) lX5_377 kX4_copyFrom (mX4_copyFrom (ca := 32) (cb := 0) ⟨by decide, by decide⟩ x_sc_0 (by decide)) dX5_read_45 rfl rfl rfl rfl rfl rfl rfl rfl ?_
    have hB := rC_cp (ca := 32) (cb := 0) ⟨by decide, by decide⟩ x_sc_0 (by decide) hC i1 i2
    have hC := rC_ne hC (fun k k1 k2 j => x_cp_ne h4 32 0 (k := k) (by omega) j)
    have hH := rH_ne hH (fun k k1 k2 _ j => x_cp_ne h4 32 0 (k := k) (by omega) j)
    have hL : rI L (x_cp h4 32 0) := ⟨(xgi_cp _ _ _ (by decide) _).trans hL.1, hL.2.1, hL.2.2.1, fun j v q => (xgi_cp _ _ _ (by decide) _).trans (hL.2.2.2 j v q)⟩
    have hQ := x_frQ_tr hQ (x_frQ_a h4)
    refine g_aload_n dX5_read_48 rfl ?_
    refine g_getr (q := 188) fX5_39 dX5_read_49 rfl rfl rfl ?_
    refine g_aload_n dX5_read_52 rfl ?_
    refine g_getr (q := 0) fX5_10 dX5_read_53 rfl rfl rfl ?_
    refine q_VN (u' := 0) lX5_380 kX1_tellTo (mX1_tellTo hL hC hI hJ (by omega)) dX5_read_56 rfl rfl rfl rfl rfl rfl rfl rfl (fun v h56 hq => ?_)
    obtain ⟨z, rfl, hz, hL, hT, hR⟩ := s_telZ hq
    have hH := rH_ne hH (fun k k1 k2 _ j => hT k j (by omega) (by omega))
    have hQ := x_frQ_tr hQ (x_frQ_T hT)
    have hB := rC_ne hB (fun k k1 k2 j => hT k j (by omega) (by omega))
    dsimp only [Option.toList, List.cons_append, List.nil_append]
    refine s_i (i := 2) dX5_read_59 rfl rfl rfl rfl ?_
    dsimp only [List.set]
    refine g_aload_n dX5_read_60 rfl ?_
    refine g_getr (q := 188) fX5_39 dX5_read_61 rfl rfl rfl ?_
    refine g_iconst (v := 0) dX5_read_64 (by decide) ?_
    refine g_puti pX5_362 dX5_read_65 rfl rfl ?_
    have hH := rH_ne (h' := xsi h56 188 1 0) hH (fun k k1 k2 _ j => by unfold xsi xsv; rw [if_neg (by omega)])
    have hB := rC_si (k := 188) (j := 1) (x := 0) hB (by omega)
    have hQ := x_frQ_tr hQ (x_frQ_1 h56 0)
    refine g_iload_n dX5_read_68 rfl ?_
    refine g_iconst (v := (-1)) dX5_read_69 (by decide) ?_
    refine g_icmp_ne (tgt := 95) dX5_read_70 (by decide) (fun c70 => ?_) (fun c70 => ?_)
    · rw [xqm (by omega) (by omega)] at c70
      have hR9 : ∃ A2 n, s_tell L 70 A 0 0 = some (A2, n) ∧ z = (n : Nat) ∧ n ≤ 70 ∧ rC 0 A2 h56 ∧ Inv (P + 12040) A2 ∧ InvF A2 := by
        rcases hR with q | q
        · exact q
        · exact absurd q.2 c70
      obtain ⟨A2, n9, t1, t2, t3, t4, t5, t6⟩ := hR9
      obtain ⟨w, hw⟩ := hH
      refine g_aload_n dX5_read_95 rfl ?_
      refine g_getr (q := 177) fX5_25 dX5_read_96 rfl rfl rfl ?_
      refine g_aload_n dX5_read_99 rfl ?_
      refine g_getr (q := 32) fX5_19 dX5_read_100 rfl rfl rfl ?_
      refine q_VN (u' := 0) lX5_84 kX0_remember (mX0_remember hB i1 i2 (show x_sc 32 from ⟨by decide, by decide⟩) (by decide) hw) dX5_read_103 rfl rfl rfl rfl rfl rfl rfl rfl (fun v h103 hq => ?_)
      obtain ⟨rfl, hH1, hF1⟩ := hq
      dsimp only [Option.toList, List.cons_append, List.nil_append]
      refine g_iload_n dX5_read_106 rfl ?_
      refine g_ireturn dX5_read_107 rfl rfl (by decide) ?_
      have hK : k_read A L = 0 := by unfold k_read; rw [if_neg (by omega), if_neg (by rw [t1]; exact fun y => nomatch y)]
      refine ⟨A2, n9, t1, by rw [t2, iI_n], hK, rC_ne (rC_si t4 (by omega)) (fun k k1 k2 j => hF1 k (by omega) j), t5, t6, hH1, rI_nil ?_, x_frQ_tr hQ (x_frQ_H hF1)⟩
      unfold xgi; rw [hF1 188 (by omega) 1]; exact xgi_si h56 188 1 0
    · rw [xqm (by omega) (by omega)] at c70
      have hR9 : s_tell L 70 A 0 0 = none := by
        rcases hR with ⟨A2, n9, t1, t2, -⟩ | q
        · omega
        · exact q.1
      refine g_aload_n dX5_read_73 rfl ?_
      refine g_getr (q := 0) fX5_10 dX5_read_74 rfl rfl rfl ?_
      refine g_aload_n dX5_read_77 rfl ?_
      refine g_getr (q := 32) fX5_19 dX5_read_78 rfl rfl rfl ?_
      refine f0_VN (u' := 0) lX5_377 kX4_copyFrom (mX4_copyFrom (ca := 0) (cb := 32) x_sc_0 ⟨by decide, by decide⟩ (by decide)) dX5_read_81 rfl rfl rfl rfl rfl rfl rfl rfl ?_
      refine g_throwW tX5_384_81 dX5_read_84 dX5_read_87 dX5_read_88 dX5_read_91 dX5_read_94 rfl rfl (by decide) ?_
      have hK : k_read A L = 2 := by unfold k_read; rw [if_neg (by omega), if_pos hR9]
      refine ⟨xc_mk hK (by decide) rfl, rC_cp x_sc_0 ⟨by decide, by decide⟩ (by decide) hB i1 i2, rH_ne hH (fun k k1 k2 _ j => x_cp_ne _ 0 32 (k := k) (by omega) j), rI_nil ?_, fun k j q => (x_frQ_tr hQ (x_frQ_b _)) k j (by omega), ?_⟩
      · rw [xgi_cp _ _ _ (by decide)]; exact xgi_si _ _ _ _
      · rw [hK, if_neg (by decide)]; unfold xgi; rw [(x_frQ_tr hQ (x_frQ_b _)) 176 9 (by omega)]
  · rw [xqm (by omega) (by omega)] at c10
    refine g_aload_n dX5_read_13 rfl ?_
    refine g_getr (q := 188) fX5_39 dX5_read_14 rfl rfl rfl ?_
    refine g_iconst (v := 0) dX5_read_17 (by decide) ?_
    refine g_puti pX5_362 dX5_read_18 rfl rfl ?_
    have hH := rH_ne (h' := xsi h4 188 1 0) hH (fun k k1 k2 _ j => by unfold xsi xsv; rw [if_neg (by omega)])
    have hC := rC_si (k := 188) (j := 1) (x := 0) hC (by omega)
    have hQ := x_frQ_tr hQ (x_frQ_1 h4 0)
    refine g_aload_n dX5_read_21 rfl ?_
    refine g_iload_n dX5_read_22 rfl ?_
    refine g_puti pX5_58 dX5_read_23 rfl rfl ?_
    refine g_throwW tX5_375_133 dX5_read_26 dX5_read_29 dX5_read_30 dX5_read_33 dX5_read_36 rfl rfl (by decide) ?_
    have hK : k_read A L = 1 := by unfold k_read; rw [if_pos c10]
    refine ⟨xc_mk hK (by decide) rfl, rC_si hC (by omega), rH_ne hH (fun k k1 k2 k3 j => by unfold xsi xsv; rw [if_neg (by omega)]), rI_nil ?_, fun k j q => ?_, ?_⟩
    · rw [xgi_ne _ _ _ _ _ _ (by decide)]; exact xgi_si _ _ _ _
    · rw [show xsi (xsi h4 188 1 0) 176 9 (iI (s_fe L 70 0)) k j = xsi h4 188 1 0 k j by unfold xsi xsv; rw [if_neg (by omega)]]; exact hQ k j (by omega)
    · rw [hK, if_pos rfl]; exact xgi_si _ _ _ _
