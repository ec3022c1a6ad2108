/-! THE REFERENCE: the open lessons of a day; a day's covers. -/
theorem nd_len : ∀ (n : Nat) (L : List Nat), L.Nodup → (∀ x, x ∈ L → x < n) → L.length ≤ n := by
  intro n
  induction n with
  | zero =>
    intro L _ h
    cases L with
    | nil => exact Nat.le_refl _
    | cons a L => exact absurd (h a List.mem_cons_self) (Nat.not_lt_zero _)
  | succ n ih =>
    intro L hN h
    by_cases q : n ∈ L
    · have a := ih (L.erase n) (hN.erase n) (fun x hx => by
        have := (hN.mem_erase_iff).mp hx
        have := h x this.2
        omega)
      rw [List.length_erase_of_mem q] at a
      omega
    · have a := ih L hN (fun x hx => by
        have := h x hx
        have : x ≠ n := fun y => q (y ▸ hx)
        omega)
      omega
theorem opa_lt {A : Ab} {d p j : Nat} (hj : j < A.2.1) (q : aF A 8 j = (6 * d + p : Nat) ∧ s_st A j = 3) : (s_opa A d p j).length < A.2.1 := by
  have e : s_opa A d p (j + 1) = s_opa A d p j ++ [j] := by rw [s_opa_s, if_pos q]
  have := nd_len A.2.1 (s_opa A d p (j + 1)) (s_opa_nd p (j + 1)) (fun x hx => (s_opa_mem (by omega) hx).1)
  rw [e, List.length_append] at this
  exact this
def rO (L : List Nat) (h : ux_H) : Prop := ∀ (k i : Nat), L[k]? = some i → xgi h 198 k = nI i
theorem rO_s {L : List Nat} {h : ux_H} {j : Nat} (hO : rO L h) : rO (L ++ [j]) (xsi h 198 L.length (nI j)) := fun k i hk => by
  rw [xgi_sif]
  by_cases q : k = L.length
  · rw [if_pos ⟨rfl, q⟩]
    subst q
    rw [List.getElem?_append_right (Nat.le_refl _), Nat.sub_self] at hk
    have : j = i := by simpa using hk
    rw [this]
  · rw [if_neg (fun y => q y.2)]
    refine hO k i ?_
    have hl := (List.getElem?_eq_some_iff.mp hk).1
    rw [List.length_append, List.length_cons, List.length_nil] at hl
    rwa [List.getElem?_append_left (by omega)] at hk
theorem rO_fr {L : List Nat} {h h' : ux_H} (hO : rO L h) (e : ∀ j, h' 198 j = h 198 j) : rO L h' := fun k i hk => by unfold xgi; rw [e k]; exact hO k i hk
set_option maxRecDepth 100000 in
theorem vX6_lo {l : Launch} {G : ux_G} {A : Ab} {P d : Nat} {h0 : ux_H} (hM0 : rM 193 0 A h0) (hI : Inv P A) (hd : d < 5) {p : Nat} (hp : p < 6) (K : ∀ h, rO (s_opl A d (p + 1)) h → x_fk 198 h0 h → ux_W l G iX6_listsOpen (ux_rm 5 0) (ux_Z G 0 (fun v h' => v = some (.int (nI (s_opl A d 6).length)) ∧ rO (s_opl A d 6) h' ∧ x_fk 198 h0 h') (fun _ _ => False)) 65 [some (.ref 192), some (.int (nI d)), some (.int (nI (s_opl A d (p + 1)).length)), some (.int (nI p)), none] [] h 0) : ∀ (n : Nat) (j : Nat) (h : ux_H), j ≤ A.2.1 → rO (s_opa A d p j) h → x_fk 198 h0 h → A.2.1 - j < n → ux_W l G iX6_listsOpen (ux_rm 5 0) (ux_Z G 0 (fun v h' => v = some (.int (nI (s_opl A d 6).length)) ∧ rO (s_opl A d 6) h' ∧ x_fk 198 h0 h') (fun _ _ => False)) 13 [some (.ref 192), some (.int (nI d)), some (.int (nI (s_opa A d p j).length)), some (.int (nI p)), some (.int (nI j))] [] (h) 0 := by
  intro n
  induction n with
  | zero => intro j h hj hO hF hn; exact absurd hn (Nat.not_lt_zero _)
  | succ n ih =>
    intro j h hj hO hF hn
    obtain ⟨i1, i2, i3, i4, i5, i6⟩ := id hI
    have hM := rM_k9 hM0 hF (by decide)
    refine g_iload dX6_listsOpen_13 rfl ?_
    refine g_aload_n dX6_listsOpen_15 rfl ?_
    refine f1_V (u' := 0) lX6_54 kX6_lessons (mX6_lessons hM) dX6_listsOpen_16 rfl rfl rfl rfl rfl rfl rfl rfl ?_
    refine g_icmp_ge (tgt := 65) dX6_listsOpen_19 (by decide) (fun c19 => ?_) (fun c19 => ?_)
    · have e : j = A.2.1 := by have := xlt_i c19 (by omega) (by omega); omega
      subst e
      refine g_fg 4 rfl ?_
      dsimp only [List.set]
      exact K h hO hF
    · have hlt : j < A.2.1 := xnl_i c19 (by omega) (by omega)
      have il := i6 j hlt
      have hr := s_st_r A j
      refine g_aload_n dX6_listsOpen_22 rfl ?_
      refine g_iload dX6_listsOpen_23 rfl ?_
      refine g_iconst (v := 0) dX6_listsOpen_25 (by decide) ?_
      refine f1_V (u' := 0) lX6_78 kX6_of (mX6_of (f := 8) hM (by omega) rfl (by omega)) dX6_listsOpen_26 rfl rfl rfl rfl rfl rfl rfl rfl ?_
      refine g_bipush (v := 6) dX6_listsOpen_29 (by decide) ?_
      refine g_iload_n dX6_listsOpen_31 rfl ?_
      refine g_imul dX6_listsOpen_32 ?_
      refine g_iload_n dX6_listsOpen_33 rfl ?_
      refine g_iadd dX6_listsOpen_34 ?_
      refine g_top (y := iI ((6 * d + p : Nat) : Int)) (by rw [show (6 : Int32) = nI 6 by decide, pk_mul, nI_add, iI_n]) ?_
      refine g_icmp_ne (tgt := 59) dX6_listsOpen_35 (by decide) (fun c35 => ?_) (fun c35 => ?_)
      · rw [iI_eq (by omega) (by omega) (by omega) (by omega)] at c35
        refine s_inc (v := nI (j + 1)) dX6_listsOpen_59 rfl nI_s rfl rfl rfl ?_
        dsimp only [List.set]
        refine g_goto (tgt := 13) dX6_listsOpen_62 (by decide) ?_
        have e0 : s_opa A d p (j + 1) = s_opa A d p j := by rw [s_opa_s, if_neg (by first | exact fun y => c35 y.1 | exact fun y => c45 y.2), List.append_nil]
        have ih9 := ih (j + 1) h (by omega) (by rw [e0]; exact hO) hF (by omega)
        rw [e0] at ih9
        exact ih9
      · rw [iI_eq (by omega) (by omega) (by omega) (by omega)] at c35
        refine g_aload_n dX6_listsOpen_38 rfl ?_
        refine g_iload dX6_listsOpen_39 rfl ?_
        refine f1_V (u' := 0) lX6_84 kX6_state (mX6_state hM hI (by omega)) dX6_listsOpen_41 rfl rfl rfl rfl rfl rfl rfl rfl ?_
        refine g_iconst (v := 3) dX6_listsOpen_44 (by decide) ?_
        refine g_icmp_ne (tgt := 59) dX6_listsOpen_45 (by decide) (fun c45 => ?_) (fun c45 => ?_)
        · rw [show (3 : Int32) = iI 3 by decide, iI_eq (by omega) (by omega) (by omega) (by omega)] at c45
          refine s_inc (v := nI (j + 1)) dX6_listsOpen_59 rfl nI_s rfl rfl rfl ?_
          dsimp only [List.set]
          refine g_goto (tgt := 13) dX6_listsOpen_62 (by decide) ?_
          have e0 : s_opa A d p (j + 1) = s_opa A d p j := by rw [s_opa_s, if_neg (by first | exact fun y => c35 y.1 | exact fun y => c45 y.2), List.append_nil]
          have ih9 := ih (j + 1) h (by omega) (by rw [e0]; exact hO) hF (by omega)
          rw [e0] at ih9
          exact ih9
        · rw [show (3 : Int32) = iI 3 by decide, iI_eq (by omega) (by omega) (by omega) (by omega)] at c45
          have ol := opa_lt (d := d) (p := p) hlt ⟨c35, c45⟩
          refine g_aload_n dX6_listsOpen_48 rfl ?_
          refine g_getr (q := 198) fX6_29 dX6_listsOpen_49 rfl rfl rfl ?_
          refine g_iload_n dX6_listsOpen_52 rfl ?_
          refine s_inc (v := nI ((s_opa A d p j).length + 1)) dX6_listsOpen_53 rfl nI_s rfl rfl rfl ?_
          dsimp only [List.set]
          refine g_iload dX6_listsOpen_56 rfl ?_
          refine g_iast dX6_listsOpen_58 rfl (show (s_opa A d p j).length < 40 by omega) rfl ?_
          refine s_inc (v := nI (j + 1)) dX6_listsOpen_59 rfl nI_s rfl rfl rfl ?_
          dsimp only [List.set]
          refine g_goto (tgt := 13) dX6_listsOpen_62 (by decide) ?_
          have e0 : s_opa A d p (j + 1) = s_opa A d p j ++ [j] := by rw [s_opa_s, if_pos ⟨c35, c45⟩]
          have ih9 := ih (j + 1) (xsi h 198 (s_opa A d p j).length (nI j)) (by omega) (by rw [e0]; exact rO_s hO) (x_fk_tr hF (x_fk_si _ _ _ _)) (by omega)
          rw [e0, List.length_append] at ih9
          exact ih9
set_option maxRecDepth 100000 in
theorem wX6_lo {l : Launch} {G : ux_G} {A : Ab} {P d : Nat} {h0 : ux_H} (hM0 : rM 193 0 A h0) (hI : Inv P A) (hd : d < 5) : ∀ (n : Nat) (p : Nat) (h : ux_H), p ≤ 6 → rO (s_opl A d p) h → x_fk 198 h0 h → 6 - p < n → ux_W l G iX6_listsOpen (ux_rm 5 0) (ux_Z G 0 (fun v h' => v = some (.int (nI (s_opl A d 6).length)) ∧ rO (s_opl A d 6) h' ∧ x_fk 198 h0 h') (fun _ _ => False)) 4 [some (.ref 192), some (.int (nI d)), some (.int (nI (s_opl A d p).length)), some (.int (nI p)), none] [] (h) 0 := by
  intro n
  induction n with
  | zero => intro p h hp hO hF hn; exact absurd hn (Nat.not_lt_zero _)
  | succ n ih =>
    intro p h hp hO hF hn
    obtain ⟨i1, i2, i3, i4, i5, i6⟩ := id hI
    refine g_iload_n dX6_listsOpen_4 rfl ?_
    refine g_bipush (v := 6) dX6_listsOpen_5 (by decide) ?_
    refine g_icmp_ge (tgt := 71) dX6_listsOpen_7 (by decide) (fun c7 => ?_) (fun c7 => ?_)
    · have e : p = 6 := by have := xlt_i (a := 6) c7 (by omega) (by omega); omega
      subst e
      refine g_iload_n dX6_listsOpen_71 rfl ?_
      refine g_ireturn dX6_listsOpen_72 rfl rfl (by decide) ?_
      exact ⟨rfl, hO, hF⟩
    · have hlt : p < 6 := xnl_i (a := 6) c7 (by omega) (by omega)
      refine g_iconst (v := 0) dX6_listsOpen_10 (by decide) ?_
      refine s_iw dX6_listsOpen_11 rfl rfl rfl ?_
      dsimp only [List.set]
      have el : s_opa A d p 0 = s_opl A d p := by unfold s_opa; show _ ++ [] = _; rw [List.append_nil]
      have v0 := vX6_lo (l := l) (G := G) hM0 hI hd hlt ?_ (A.2.1 + 1) 0 h (Nat.zero_le _) (by rw [el]; exact hO) hF (by omega)
      · rw [el] at v0
        exact v0
      · intro h2 hO2 hF2
        refine s_inc (v := nI (p + 1)) dX6_listsOpen_65 rfl nI_s rfl rfl rfl ?_
        dsimp only [List.set]
        refine g_goto (tgt := 4) dX6_listsOpen_68 (by decide) ?_
        exact ih (p + 1) h2 (by omega) hO2 hF2 (by omega)
set_option maxRecDepth 100000 in
theorem mX6_listsOpen {l : Launch} {G : ux_G} {h : ux_H} {A : Ab} {P d : Nat} (hM : rM 193 0 A h) (hI : Inv P A) (hd : d < 5) : ux_M l G yX6_listsOpen iX6_listsOpen 5 0 [.ref 192, .int (nI d)] h (fun v h' => v = some (.int (nI (s_opl A d 6).length)) ∧ rO (s_opl A d 6) h' ∧ x_fk 198 h h') (fun _ _ => False) := by
  refine ux_ent (L' := [some (.ref 192), some (.int (nI d)), none, none, none]) kX6_listsOpen rfl rfl rfl rfl ?_
  refine g_iconst (v := 0) dX6_listsOpen_0 (by decide) ?_
  refine s_i (i := 2) dX6_listsOpen_1 rfl rfl rfl rfl ?_
  dsimp only [List.set]
  refine g_iconst (v := 0) dX6_listsOpen_2 (by decide) ?_
  refine s_i (i := 3) dX6_listsOpen_3 rfl rfl rfl rfl ?_
  dsimp only [List.set]
  exact wX6_lo (l := l) (G := G) (h0 := h) hM hI hd 7 0 h (Nat.zero_le _) (fun k i hk => absurd hk (by simp [s_opl])) (x_fk_rf _ _) (by omega)
set_option maxRecDepth 100000 in
theorem wX6_coverDay {l : Launch} {G : ux_G} {Q9 : Option Value → ux_H → Prop} {X9 : String → ux_H → Prop} {a : Int} {A : Ab} {P d : Nat} {h0 : ux_H} (hI : Inv P A) (hJ : InvF A) (hP : P + 300 ≤ 10000000) (hd : d < 5) (hO : rO (s_opl A d 6) h0) (K : ∀ h, rM 193 0 (s_cvs A (s_opl A d 6)).1 h → x_fm h0 h → ux_W l G iX6_coverDay (ux_rm 10 0) (ux_Z G 0 Q9 X9) 84 [some (.ref 192), some (.int (iI a)), some (.int (nI (s_opl A d 6).length)), some (.int (nI (s_cvs A (s_opl A d 6)).2)), none, none] [] h 0) : ∀ (n : Nat) (j : Nat) (h : ux_H), j ≤ (s_opl A d 6).length → rM 193 0 (s_cvs A ((s_opl A d 6).take j)).1 h → x_fm h0 h → (s_opl A d 6).length - j < n → ux_W l G iX6_coverDay (ux_rm 10 0) (ux_Z G 0 Q9 X9) 33 [some (.ref 192), some (.int (iI a)), some (.int (nI (s_opl A d 6).length)), some (.int (nI (s_cvs A ((s_opl A d 6).take j)).2)), some (.int (nI j)), none] [] (h) 0 := by
  intro n
  induction n with
  | zero => intro j h hj hMB hF hn; exact absurd hn (Nat.not_lt_zero _)
  | succ n ih =>
    intro j h hj hMB hF hn
    obtain ⟨i1, i2, i3, i4, i5, i6⟩ := id hI
    have ln : (s_opl A d 6).length ≤ A.2.1 := by rw [s_opl_n]; exact s_cnt_le _ _
    have lt9 : ((s_opl A d 6).take j).length ≤ (s_opl A d 6).length := by rw [List.length_take]; omega
    obtain ⟨k1, k2, k3, k4, k5, k6⟩ := s_cvs_ok ((s_opl A d 6).take j) hI hJ (fun m hm => ⟨(s_opl_mem.mp (List.mem_of_mem_take hm)).1, (s_opl_mem.mp (List.mem_of_mem_take hm)).2.1⟩) ((s_opl_ndq A d).sublist (List.take_sublist _ _)) (by omega)
    refine g_iload dX6_coverDay_33 rfl ?_
    refine g_iload_n dX6_coverDay_35 rfl ?_
    refine g_icmp_ge (tgt := 84) dX6_coverDay_36 (by decide) (fun c36 => ?_) (fun c36 => ?_)
    · have e : j = (s_opl A d 6).length := by have := xlt_i c36 (by omega) (by omega); omega
      rw [e, List.take_length] at hMB ⊢
      refine g_fg 4 rfl ?_
      dsimp only [List.set]
      exact K h hMB hF
    · have hlt : j < (s_opl A d 6).length := xnl_i c36 (by omega) (by omega)
      obtain ⟨i, hi⟩ : ∃ i, (s_opl A d 6)[j]? = some i := ⟨_, List.getElem?_eq_getElem hlt⟩
      have hil := (s_opl_mem.mp (List.mem_of_getElem? hi)).1
      have hilB : i < (s_cvs A ((s_opl A d 6).take j)).1.2.1 := by omega
      have hO2 := (rO_fr hO (fun j => hF 198 (by decide) j)) j i hi
      have e0 : (s_opl A d 6).take (j + 1) = (s_opl A d 6).take j ++ [i] := by rw [List.take_succ, hi]; rfl
      have fb := s_best_r (s_cvs A ((s_opl A d 6).take j)).1 i (s_cvs A ((s_opl A d 6).take j)).1.1
      refine g_aload_n dX6_coverDay_39 rfl ?_
      refine g_aload_n dX6_coverDay_40 rfl ?_
      refine g_getr (q := 198) fX6_29 dX6_coverDay_41 rfl rfl rfl ?_
      refine g_iload dX6_coverDay_44 rfl ?_
      refine g_iald dX6_coverDay_46 rfl (show j < 40 by omega) rfl ?_
      refine g_top (y := nI i) hO2 ?_
      refine f1_V (u' := 0) lX6_188 kX6_suggested (mX6_suggested hMB k1 k2 hilB) dX6_coverDay_47 rfl rfl rfl rfl rfl rfl rfl rfl ?_
      refine s_iw dX6_coverDay_50 rfl rfl rfl ?_
      dsimp only [List.set]
      refine g_iload dX6_coverDay_52 rfl ?_
      refine g_iconst (v := (-1)) dX6_coverDay_54 (by decide) ?_
      refine g_icmp_ne (tgt := 61) dX6_coverDay_55 (by decide) (fun c55 => ?_) (fun c55 => ?_)
      · rw [xqm (by omega) (by omega)] at c55
        have e1 : s_cvs A ((s_opl A d 6).take (j + 1)) = (s_begin (s_cvs A ((s_opl A d 6).take j)).1 i (s_best (s_cvs A ((s_opl A d 6).take j)).1 i (s_cvs A ((s_opl A d 6).take j)).1.1).toNat, (s_cvs A ((s_opl A d 6).take j)).2 + 1) := by rw [e0, s_cvs_app]; unfold s_cv s_cvn; rw [if_neg c55, if_neg c55]
        refine g_aload_n dX6_coverDay_61 rfl ?_
        refine g_aload_n dX6_coverDay_62 rfl ?_
        refine g_getr (q := 198) fX6_29 dX6_coverDay_63 rfl rfl rfl ?_
        refine g_iload dX6_coverDay_66 rfl ?_
        refine g_iald dX6_coverDay_68 rfl (show j < 40 by omega) rfl ?_
        refine g_top (y := nI i) hO2 ?_
        refine g_iload dX6_coverDay_69 rfl ?_
        refine g_top (y := nI (s_best (s_cvs A ((s_opl A d 6).take j)).1 i (s_cvs A ((s_opl A d 6).take j)).1.1).toNat) (iI_get (by omega) (by omega)) ?_
        refine q_V (u' := 0) lX6_194 kX6_begins (mX6_begins hMB k1 hilB (by omega) (by omega)) dX6_coverDay_71 rfl rfl rfl rfl rfl rfl rfl rfl (fun v h71 hq => ?_) (fun _ _ q => q.elim)
        obtain ⟨rfl, hM2, hF2⟩ := hq
        dsimp only [Option.toList, List.cons_append, List.nil_append]
        refine g_pop dX6_coverDay_74 rfl ?_
        refine s_inc (v := nI ((s_cvs A ((s_opl A d 6).take j)).2 + 1)) dX6_coverDay_75 rfl nI_s rfl rfl rfl ?_
        dsimp only [List.set]
        refine s_inc (v := nI (j + 1)) dX6_coverDay_78 rfl nI_s rfl rfl rfl ?_
        dsimp only [List.set]
        refine g_goto (tgt := 33) dX6_coverDay_81 (by decide) ?_
        refine g_fg 5 rfl ?_
        dsimp only [List.set]
        have ih9 := ih (j + 1) h71 (by omega) (by rw [e1]; exact hM2) (x_fm_tr hF hF2) (by omega)
        rw [e1] at ih9
        exact ih9
      · rw [xqm (by omega) (by omega)] at c55
        have e1 : s_cvs A ((s_opl A d 6).take (j + 1)) = (s_cvs A ((s_opl A d 6).take j)) := by rw [e0, s_cvs_app]; unfold s_cv s_cvn; rw [if_pos c55, if_pos c55]; rfl
        refine g_goto (tgt := 78) dX6_coverDay_58 (by decide) ?_
        refine s_inc (v := nI (j + 1)) dX6_coverDay_78 rfl nI_s rfl rfl rfl ?_
        dsimp only [List.set]
        refine g_goto (tgt := 33) dX6_coverDay_81 (by decide) ?_
        refine g_fg 5 rfl ?_
        dsimp only [List.set]
        have ih9 := ih (j + 1) h (by omega) (by rw [e1]; exact hMB) hF (by omega)
        rw [e1] at ih9
        exact ih9
set_option maxRecDepth 100000 in
theorem mX6_coverDay {l : Launch} {G : ux_G} {h : ux_H} {a : Int} {Hs : List Ab} {A : Ab} {P : Nat} (hM : rM 193 0 A h) (hK : rK Hs h) (hI : Inv P A) (hJ : InvF A) (hP : P + 3000 ≤ 10000000) (ra : -2147483648 ≤ a ∧ a ≤ 2147483647) : ux_M l G yX6_coverDay iX6_coverDay 10 0 [.ref 192, .int (iI a)] h (Q6 (k_coverDay a) (nI (s_cvs A (s_opl A a.toNat 6)).2) A ((s_cvs A (s_opl A a.toNat 6)).1) Hs h) (fun _ _ => False) := by
  refine ux_ent (L' := [some (.ref 192), some (.int (iI a)), none, none, none, none]) kX6_coverDay rfl rfl rfl rfl ?_
  obtain ⟨i1, i2, i3, i4, i5, i6⟩ := id hI
  refine g_aload_n dX6_coverDay_0 rfl ?_
  refine g_iconst (v := 0) dX6_coverDay_1 (by decide) ?_
  refine g_puti pX6_44 dX6_coverDay_2 rfl rfl ?_
  have hM0 := rM_0t (j := 0) (x := 0) (Or.inl rfl) hM
  have hK0 := rK_0t (j := 0) (x := 0) (by decide) hK
  have hF0 := x_fN_0 h 0
  refine g_iload_n dX6_coverDay_5 rfl ?_
  refine f1_S (u' := 0) lX6_173 kX6_isDay (mX6_isDay (by omega)) dX6_coverDay_6 rfl rfl rfl rfl rfl rfl ?_
  refine g_if_ne (tgt := 18) dX6_coverDay_9 (by decide) (fun c9 => ?_) (fun c9 => ?_)
  · have q9 := xb_n0 c9
    refine g_aload_n dX6_coverDay_18 rfl ?_
    refine q_V (u' := 0) lX6_68 kX6_changes (mX6_changes hM0 (by omega) (by omega) hK0) dX6_coverDay_19 rfl rfl rfl rfl rfl rfl rfl rfl (fun v h19 hq => ?_) (fun _ _ q => q.elim)
    obtain ⟨rfl, hK1, hFc⟩ := hq
    have hM1 := rM_c9 hM0 hFc (Or.inl rfl)
    have hF1 := x_fT_c hFc
    dsimp only [Option.toList, List.cons_append, List.nil_append]
    refine g_aload_n dX6_coverDay_22 rfl ?_
    refine g_iload_n dX6_coverDay_23 rfl ?_
    refine g_top (y := nI a.toNat) (iI_get (by omega) (by omega)) ?_
    refine q_V (u' := 0) lX6_176 kX6_listsOpen (mX6_listsOpen (d := a.toNat) hM1 hI (by omega)) dX6_coverDay_24 rfl rfl rfl rfl rfl rfl rfl rfl (fun v h24 hq => ?_) (fun _ _ q => q.elim)
    obtain ⟨rfl, hO24, hF24⟩ := hq
    dsimp only [Option.toList, List.cons_append, List.nil_append]
    refine s_i (i := 2) dX6_coverDay_27 rfl rfl rfl rfl ?_
    dsimp only [List.set]
    refine g_iconst (v := 0) dX6_coverDay_28 (by decide) ?_
    refine s_i (i := 3) dX6_coverDay_29 rfl rfl rfl rfl ?_
    dsimp only [List.set]
    refine g_iconst (v := 0) dX6_coverDay_30 (by decide) ?_
    refine s_iw dX6_coverDay_31 rfl rfl rfl ?_
    dsimp only [List.set]
    refine wX6_coverDay (l := l) (G := G) (d := a.toNat) (h0 := h24) hI hJ (by omega) (by omega) hO24 ?_ ((s_opl A a.toNat 6).length + 1) 0 h24 (Nat.zero_le _) (rM_k9 hM1 hF24 (by decide)) (x_fm_rf _) (by omega)
    intro h4 hM4 hF4
    refine g_iload_n dX6_coverDay_84 rfl ?_
    refine g_ireturn dX6_coverDay_85 rfl rfl (by decide) ?_
    exact q6_ok (by unfold k_coverDay; (repeat' split) <;> first | rfl | omega | contradiction) hM4 (rK_m (rK_k hK1 hF24 (by decide)) hF4) (x_fT_tr hF1 (x_fT_tr (x_fT_k hF24 (by decide)) (x_fT_m hF4)))
  · have q9 := xb_0.mp c9
    refine g_aload_n dX6_coverDay_12 rfl ?_
    refine g_iconst (v := 1) dX6_coverDay_13 (by decide) ?_
    refine f1_V (u' := 0) lX6_107 kX6_raises (mX6_raises) dX6_coverDay_14 rfl rfl rfl rfl rfl rfl rfl rfl ?_
    refine g_ireturn dX6_coverDay_17 rfl rfl (by decide) ?_
    exact q6_no (c := 1) (by unfold k_coverDay; (repeat' split) <;> first | rfl | omega | contradiction) (by decide) hM0 hK0 hF0
