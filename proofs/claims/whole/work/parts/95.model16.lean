/-! THE REFERENCE: what is asked of the plans. -/
def kl (A : Ab) (a : Int) : Nat := if ¬ (0 ≤ a ∧ a < 5) then 1 else if ¬ (s_opl A a.toNat 6).length ≤ 4 then 2 else if (pl_of A a.toNat).1 = 0 then 3 else 0
/-- what the search for plans leaves as it was -/
def x_fl (h h' : ux_H) : Prop := (∀ c, c < 192 ∨ (194 ≤ c ∧ c ≤ 197) ∨ 201 ≤ c → ∀ j, h' c j = h c j) ∧ ∀ j, j ≠ 0 → j ≠ 15 → j ≠ 16 → h' 192 j = h 192 j
theorem x_fl_rf (h : ux_H) : x_fl h h := ⟨fun _ _ _ => rfl, fun _ _ _ _ => rfl⟩
theorem x_fl_tr {h h1 h2 : ux_H} (a : x_fl h h1) (b : x_fl h1 h2) : x_fl h h2 := ⟨fun c p j => (b.1 c p j).trans (a.1 c p j), fun j p q r => (b.2 j p q r).trans (a.2 j p q r)⟩
theorem x_fl_q {h h1 : ux_H} (a : x_fq h h1) : x_fl h h1 := ⟨fun c p j => a.1 c (by omega) (by omega) (by omega) (by omega) j, fun j _ q r => a.2 j q r⟩
theorem x_fl_k {h h1 : ux_H} (a : x_fk 198 h h1) : x_fl h h1 := ⟨fun c p j => a c (by omega) j, fun j _ _ _ => a 192 (by decide) j⟩
theorem x_fl_0 (h : ux_H) {j : Nat} (x : Int32) (hj : j = 0 ∨ j = 15 ∨ j = 16) : x_fl h (xsi h 192 j x) := ⟨fun c p b => by unfold xsi xsv; rw [if_neg (by omega)], fun b p q r => by unfold xsi xsv; rw [if_neg (by omega)]⟩
theorem x_fN_l {h h1 : ux_H} (a : x_fl h h1) : x_fN h h1 := ⟨fun c p j => a.1 c (by omega) j, fun j p => a.2 j (by omega) (by omega) (by omega)⟩
theorem rK_l {Hs : List Ab} {h h' : ux_H} (hK : rK Hs h) (hF : x_fl h h') : rK Hs h' := rK_fr hK (fun a => hF.1 196 (by omega) a) (hF.2 6 (by decide) (by decide) (by decide))
/-- how the reference ends a call that changes nothing -/
def QR (K : Nat) (R : Int32) (A : Ab) (Hs : List Ab) (h : ux_H) (v : Option Value) (h' : ux_H) : Prop := v = some (.int (if K = 0 then R else 0)) ∧ xgi h' 192 0 = nI K ∧ rM 193 0 A h' ∧ rK Hs h' ∧ x_fN h h'
def QL (K : Nat) (a : Int) (A : Ab) (h : ux_H) (v : Option Value) (h' : ux_H) : Prop := v = some (.int (if K = 1 ∨ K = 2 then 0 else nI (s_opl A a.toNat 6).length)) ∧ xgi h' 192 0 = nI K ∧ rM 193 0 A h' ∧ (K = 0 ∨ K = 3 → (s_opl A a.toNat 6).length ≤ 4 ∧ (0 ≤ a ∧ a < 5) ∧ rO (s_opl A a.toNat 6) h' ∧ rA (s_opl A a.toNat 6).length (pl_of A a.toNat) h') ∧ x_fl h h'
theorem kl_pd {A : Ab} {a : Int} : (kl A a = 1 ∨ kl A a = 2 → k_planDay A a = kl A a) ∧ (kl A a = 0 ∨ kl A a = 3 → k_planDay A a = 0) ∧ (kl A a = 0 ↔ k_planDay A a = 0 ∧ (pl_of A a.toNat).1 ≠ 0) ∧ (kl A a = 3 ↔ k_planDay A a = 0 ∧ (pl_of A a.toNat).1 = 0) ∧ kl A a ≤ 3 := by
  unfold kl k_planDay
  by_cases q1 : ¬ (0 ≤ a ∧ a < 5)
  · rw [if_pos q1, if_pos q1]; omega
  · rw [if_neg q1, if_neg q1]
    by_cases q2 : ¬ (s_opl A a.toNat 6).length ≤ 4
    · rw [if_pos q2, if_pos q2]; omega
    · rw [if_neg q2, if_neg q2]
      by_cases q3 : (pl_of A a.toNat).1 = 0
      · rw [if_pos q3]; omega
      · rw [if_neg q3]; omega
set_option maxRecDepth 100000 in
theorem tX6_looks {l : Launch} {G : ux_G} {h9 h : ux_H} {a : Int} {A : Ab} (hd : 0 ≤ a ∧ a < 5) (hL : (s_opl A a.toNat 6).length ≤ 4) (hz : (pl_of A a.toNat).1 ≤ 5000) (hM : rM 193 0 A h) (hO : rO (s_opl A a.toNat 6) h) (hA : rA (s_opl A a.toNat 6).length (pl_of A a.toNat) h) (h0 : xgi h 192 0 = 0) (hF : x_fl h9 h) : ux_W l G iX6_looks (ux_rm 14 0) (ux_Z G 0 (QL (kl A a) a A h9) (fun _ _ => False)) 46 [some (.ref 192), some (.int (iI a)), some (.int (nI (s_opl A a.toNat 6).length))] [] (h) 0 := by
  refine g_aload_n dX6_looks_46 rfl ?_
  refine g_geti fX6_211 dX6_looks_47 rfl rfl ?_
  refine g_top hA.1 ?_
  refine g_if_ne (tgt := 58) dX6_looks_50 (by decide) (fun c50 => ?_) (fun c50 => ?_)
  · have q50 : (pl_of A a.toNat).1 ≠ 0 := fun y => c50 (by rw [y]; rfl)
    have ek : kl A a = 0 := by unfold kl; rw [if_neg (by omega), if_neg (by omega), if_neg q50]
    refine g_iload_n dX6_looks_58 rfl ?_
    refine g_ireturn dX6_looks_59 rfl rfl (by decide) ?_
    rw [ek]
    first
    | exact ⟨by rw [if_neg (by decide)], h0, hM, fun _ => ⟨hL, hd, hO, hA⟩, hF⟩
    | exact ⟨by rw [if_neg (by decide)], xgi_si _ _ _ _, rM_0t (Or.inl rfl) hM, fun _ => ⟨hL, hd, rO_fr hO (fun j => by unfold xsi xsv; rw [if_neg (by omega)]), rA_fr hA (fun j => by unfold xsi xsv; rw [if_neg (by omega)]) (by unfold xsi xsv; rw [if_neg (by omega)]) (by unfold xsi xsv; rw [if_neg (by omega)])⟩, x_fl_tr hF (x_fl_0 _ _ (Or.inl rfl))⟩
  · have q50 : (pl_of A a.toNat).1 = 0 := by rw [nI_iI, xq0 (by omega) (by omega)] at c50; omega
    have ek : kl A a = 3 := by unfold kl; rw [if_neg (by omega), if_neg (by omega), if_pos q50]
    refine g_aload_n dX6_looks_53 rfl ?_
    refine g_iconst (v := 3) dX6_looks_54 (by decide) ?_
    refine g_puti pX6_44 dX6_looks_55 rfl rfl ?_
    refine g_iload_n dX6_looks_58 rfl ?_
    refine g_ireturn dX6_looks_59 rfl rfl (by decide) ?_
    rw [ek]
    first
    | exact ⟨by rw [if_neg (by decide)], h0, hM, fun _ => ⟨hL, hd, hO, hA⟩, hF⟩
    | exact ⟨by rw [if_neg (by decide)], xgi_si _ _ _ _, rM_0t (Or.inl rfl) hM, fun _ => ⟨hL, hd, rO_fr hO (fun j => by unfold xsi xsv; rw [if_neg (by omega)]), rA_fr hA (fun j => by unfold xsi xsv; rw [if_neg (by omega)]) (by unfold xsi xsv; rw [if_neg (by omega)]) (by unfold xsi xsv; rw [if_neg (by omega)])⟩, x_fl_tr hF (x_fl_0 _ _ (Or.inl rfl))⟩
set_option maxRecDepth 100000 in
theorem mX6_looks {l : Launch} {G : ux_G} {h : ux_H} {a : Int} {A : Ab} {P : Nat} (hM : rM 193 0 A h) (hI : Inv P A) (hJ : InvF A) (hP : P + 100 ≤ 10000000) (ra : -2147483648 ≤ a ∧ a ≤ 2147483647) : ux_M l G yX6_looks iX6_looks 14 0 [.ref 192, .int (iI a)] h (QL (kl A a) a A h) (fun _ _ => False) := by
  refine ux_ent (L' := [some (.ref 192), some (.int (iI a)), none]) kX6_looks rfl rfl rfl rfl ?_
  obtain ⟨i1, i2, i3, i4, i5, i6⟩ := id hI
  refine g_aload_n dX6_looks_0 rfl ?_
  refine g_iconst (v := 0) dX6_looks_1 (by decide) ?_
  refine g_puti pX6_44 dX6_looks_2 rfl rfl ?_
  have hM0 := rM_0t (j := 0) (x := 0) (Or.inl rfl) hM
  refine g_iload_n dX6_looks_5 rfl ?_
  refine f1_S (u' := 0) lX6_173 kX6_isDay (mX6_isDay (by omega)) dX6_looks_6 rfl rfl rfl rfl rfl rfl ?_
  refine g_if_ne (tgt := 18) dX6_looks_9 (by decide) (fun c9 => ?_) (fun c9 => ?_)
  · have q9 := xb_n0 c9
    refine g_aload_n dX6_looks_18 rfl ?_
    refine g_iload_n dX6_looks_19 rfl ?_
    refine g_top (y := nI a.toNat) (iI_get (by omega) (by omega)) ?_
    refine q_V (u' := 0) lX6_176 kX6_listsOpen (mX6_listsOpen (d := a.toNat) hM0 hI (by omega)) dX6_looks_20 rfl rfl rfl rfl rfl rfl rfl rfl (fun v h20 hq => ?_) (fun _ _ q => q.elim)
    obtain ⟨rfl, hO20, hF20⟩ := hq
    dsimp only [Option.toList, List.cons_append, List.nil_append]
    have ln : (s_opl A a.toNat 6).length ≤ A.2.1 := by rw [s_opl_n]; exact s_cnt_le _ _
    refine s_i (i := 2) dX6_looks_23 rfl rfl rfl rfl ?_
    dsimp only [List.set]
    refine g_iload_n dX6_looks_24 rfl ?_
    refine g_iconst (v := 4) dX6_looks_25 (by decide) ?_
    refine g_icmp_le (tgt := 35) dX6_looks_26 (by decide) (fun c26 => ?_) (fun c26 => ?_)
    · refine g_aload_n dX6_looks_35 rfl ?_
      refine g_iconst (v := 0) dX6_looks_36 (by decide) ?_
      refine g_puti pX6_211 dX6_looks_37 rfl rfl ?_
      refine g_aload_n dX6_looks_40 rfl ?_
      refine g_iconst (v := 0) dX6_looks_41 (by decide) ?_
      refine g_iload_n dX6_looks_42 rfl ?_
      have hL : (s_opl A a.toNat 6).length ≤ 4 := by rw [show (4 : Int32) = nI 4 by decide] at c26; exact xlt_i c26 (by omega) (by omega)
      have hz := (pl_of_ok (A := A) (d := a.toNat) hI hL hP).1
      have hM20 := rM_k9 hM0 hF20 (by decide)
      obtain h5 | h5 | h5 | h5 | h5 : (s_opl A a.toNat 6).length = 0 ∨ (s_opl A a.toNat 6).length = 1 ∨ (s_opl A a.toNat 6).length = 2 ∨ (s_opl A a.toNat 6).length = 3 ∨ (s_opl A a.toNat 6).length = 4 := by omega
      · refine q_V (u' := 0) lX6_217 kX6_plans (mX6_plans0 (Ls := s_opl A a.toNat 6) (pre := []) (B := A) (a := (0, 0, [])) (PB := P) (c := 0) (n7 := (s_opl A a.toNat 6).length) (rM_0t (Or.inl rfl) hM20) hI hJ rfl hL (rO_fr hO20 (fun j => by unfold xsi xsv; rw [if_neg (by omega)])) (fun k t hk => absurd hk (by simp)) ⟨xgi_si _ _ _ _, fun y => absurd rfl y⟩ ⟨Nat.le_refl _, fun y => absurd rfl y⟩ h5.symm (by decide)) dX6_looks_43 (show [Value.int (nI (s_opl A a.toNat 6).length), .int 0, .ref 192] = _ by rw [h5]; rfl) rfl rfl rfl rfl rfl rfl rfl (fun v h43 hq => ?_) (fun _ _ q => q.elim)
        obtain ⟨rfl, hM4, hO4, hp4, hA4, hF4⟩ := hq
        dsimp only [Option.toList, List.cons_append, List.nil_append]
        have hA4 : rA (s_opl A a.toNat 6).length (pl_of A a.toNat) h43 := by unfold pl_of; rw [pl_go_nil h5]; exact hA4
        exact tX6_looks (l := l) (G := G) q9 hL (by omega) hM4 hO4 hA4 (by rw [show xgi h43 192 0 = xgi (xsi h20 192 16 0) 192 0 by unfold xgi; rw [hF4.2 0 (by decide) (by decide)], xgi_ne _ _ _ _ _ _ (by decide), x_fk_g hF20 (by decide) 0]; exact xgi_si _ _ _ _) (x_fl_tr (x_fl_0 _ _ (Or.inl rfl)) (x_fl_tr (x_fl_k hF20) (x_fl_tr (x_fl_0 _ _ (Or.inr (Or.inr rfl))) (x_fl_q hF4))))
      · refine q_V (u' := 0) lX6_217 kX6_plans (mX6_plans1 (R := s_opl A a.toNat 6) (Ls := s_opl A a.toNat 6) (pre := []) (B := A) (a := (0, 0, [])) (PB := P) (c := 0) (n7 := (s_opl A a.toNat 6).length) (rM_0t (Or.inl rfl) hM20) hI hJ rfl hL (rO_fr hO20 (fun j => by unfold xsi xsv; rw [if_neg (by omega)])) (fun k t hk => absurd hk (by simp)) ⟨xgi_si _ _ _ _, fun y => absurd rfl y⟩ ⟨Nat.le_refl _, fun y => absurd rfl y⟩ rfl h5 pl_rest_opl (by omega) (by rw [h5]; decide)) dX6_looks_43 rfl rfl rfl rfl rfl rfl rfl rfl (fun v h43 hq => ?_) (fun _ _ q => q.elim)
        obtain ⟨rfl, hM4, hO4, hp4, hA4, hF4⟩ := hq
        dsimp only [Option.toList, List.cons_append, List.nil_append]
        exact tX6_looks (l := l) (G := G) q9 hL (by omega) hM4 hO4 hA4 (by rw [show xgi h43 192 0 = xgi (xsi h20 192 16 0) 192 0 by unfold xgi; rw [hF4.2 0 (by decide) (by decide)], xgi_ne _ _ _ _ _ _ (by decide), x_fk_g hF20 (by decide) 0]; exact xgi_si _ _ _ _) (x_fl_tr (x_fl_0 _ _ (Or.inl rfl)) (x_fl_tr (x_fl_k hF20) (x_fl_tr (x_fl_0 _ _ (Or.inr (Or.inr rfl))) (x_fl_q hF4))))
      · refine q_V (u' := 0) lX6_217 kX6_plans (mX6_plans2 (R := s_opl A a.toNat 6) (Ls := s_opl A a.toNat 6) (pre := []) (B := A) (a := (0, 0, [])) (PB := P) (c := 0) (n7 := (s_opl A a.toNat 6).length) (rM_0t (Or.inl rfl) hM20) hI hJ rfl hL (rO_fr hO20 (fun j => by unfold xsi xsv; rw [if_neg (by omega)])) (fun k t hk => absurd hk (by simp)) ⟨xgi_si _ _ _ _, fun y => absurd rfl y⟩ ⟨Nat.le_refl _, fun y => absurd rfl y⟩ rfl h5 pl_rest_opl (by omega) (by rw [h5]; decide)) dX6_looks_43 rfl rfl rfl rfl rfl rfl rfl rfl (fun v h43 hq => ?_) (fun _ _ q => q.elim)
        obtain ⟨rfl, hM4, hO4, hp4, hA4, hF4⟩ := hq
        dsimp only [Option.toList, List.cons_append, List.nil_append]
        exact tX6_looks (l := l) (G := G) q9 hL (by omega) hM4 hO4 hA4 (by rw [show xgi h43 192 0 = xgi (xsi h20 192 16 0) 192 0 by unfold xgi; rw [hF4.2 0 (by decide) (by decide)], xgi_ne _ _ _ _ _ _ (by decide), x_fk_g hF20 (by decide) 0]; exact xgi_si _ _ _ _) (x_fl_tr (x_fl_0 _ _ (Or.inl rfl)) (x_fl_tr (x_fl_k hF20) (x_fl_tr (x_fl_0 _ _ (Or.inr (Or.inr rfl))) (x_fl_q hF4))))
      · refine q_V (u' := 0) lX6_217 kX6_plans (mX6_plans3 (R := s_opl A a.toNat 6) (Ls := s_opl A a.toNat 6) (pre := []) (B := A) (a := (0, 0, [])) (PB := P) (c := 0) (n7 := (s_opl A a.toNat 6).length) (rM_0t (Or.inl rfl) hM20) hI hJ rfl hL (rO_fr hO20 (fun j => by unfold xsi xsv; rw [if_neg (by omega)])) (fun k t hk => absurd hk (by simp)) ⟨xgi_si _ _ _ _, fun y => absurd rfl y⟩ ⟨Nat.le_refl _, fun y => absurd rfl y⟩ rfl h5 pl_rest_opl (by omega) (by rw [h5]; decide)) dX6_looks_43 rfl rfl rfl rfl rfl rfl rfl rfl (fun v h43 hq => ?_) (fun _ _ q => q.elim)
        obtain ⟨rfl, hM4, hO4, hp4, hA4, hF4⟩ := hq
        dsimp only [Option.toList, List.cons_append, List.nil_append]
        exact tX6_looks (l := l) (G := G) q9 hL (by omega) hM4 hO4 hA4 (by rw [show xgi h43 192 0 = xgi (xsi h20 192 16 0) 192 0 by unfold xgi; rw [hF4.2 0 (by decide) (by decide)], xgi_ne _ _ _ _ _ _ (by decide), x_fk_g hF20 (by decide) 0]; exact xgi_si _ _ _ _) (x_fl_tr (x_fl_0 _ _ (Or.inl rfl)) (x_fl_tr (x_fl_k hF20) (x_fl_tr (x_fl_0 _ _ (Or.inr (Or.inr rfl))) (x_fl_q hF4))))
      · refine q_V (u' := 0) lX6_217 kX6_plans (mX6_plans4 (R := s_opl A a.toNat 6) (Ls := s_opl A a.toNat 6) (pre := []) (B := A) (a := (0, 0, [])) (PB := P) (c := 0) (n7 := (s_opl A a.toNat 6).length) (rM_0t (Or.inl rfl) hM20) hI hJ rfl hL (rO_fr hO20 (fun j => by unfold xsi xsv; rw [if_neg (by omega)])) (fun k t hk => absurd hk (by simp)) ⟨xgi_si _ _ _ _, fun y => absurd rfl y⟩ ⟨Nat.le_refl _, fun y => absurd rfl y⟩ rfl h5 pl_rest_opl (by omega) (by rw [h5]; decide)) dX6_looks_43 rfl rfl rfl rfl rfl rfl rfl rfl (fun v h43 hq => ?_) (fun _ _ q => q.elim)
        obtain ⟨rfl, hM4, hO4, hp4, hA4, hF4⟩ := hq
        dsimp only [Option.toList, List.cons_append, List.nil_append]
        exact tX6_looks (l := l) (G := G) q9 hL (by omega) hM4 hO4 hA4 (by rw [show xgi h43 192 0 = xgi (xsi h20 192 16 0) 192 0 by unfold xgi; rw [hF4.2 0 (by decide) (by decide)], xgi_ne _ _ _ _ _ _ (by decide), x_fk_g hF20 (by decide) 0]; exact xgi_si _ _ _ _) (x_fl_tr (x_fl_0 _ _ (Or.inl rfl)) (x_fl_tr (x_fl_k hF20) (x_fl_tr (x_fl_0 _ _ (Or.inr (Or.inr rfl))) (x_fl_q hF4))))
    · have q26 : ¬ (s_opl A a.toNat 6).length ≤ 4 := fun y => c26 (by rw [show (4 : Int32) = nI 4 by decide]; exact (nI_leI (by omega) (by omega)).mpr y)
      refine g_aload_n dX6_looks_29 rfl ?_
      refine g_iconst (v := 2) dX6_looks_30 (by decide) ?_
      refine f1_V (u' := 0) lX6_107 kX6_raises (mX6_raises) dX6_looks_31 rfl rfl rfl rfl rfl rfl rfl rfl ?_
      refine g_ireturn dX6_looks_34 rfl rfl (by decide) ?_
      rw [show kl A a = 2 from (by unfold kl; rw [if_neg (by omega), if_pos q26])]
      exact ⟨by rw [if_pos (by decide)], xgi_si _ _ _ _, rM_0t (Or.inl rfl) (rM_k9 hM0 hF20 (by decide)), fun y => absurd y (by decide), x_fl_tr (x_fl_tr (x_fl_0 h 0 (Or.inl rfl)) (x_fl_k hF20)) (x_fl_0 _ _ (Or.inl rfl))⟩
  · have q9 := xb_0.mp c9
    refine g_aload_n dX6_looks_12 rfl ?_
    refine g_iconst (v := 1) dX6_looks_13 (by decide) ?_
    refine f1_V (u' := 0) lX6_107 kX6_raises (mX6_raises) dX6_looks_14 rfl rfl rfl rfl rfl rfl rfl rfl ?_
    refine g_ireturn dX6_looks_17 rfl rfl (by decide) ?_
    rw [show kl A a = 1 from (by unfold kl; rw [if_pos q9])]
    exact ⟨by rw [if_pos (by decide)], xgi_si _ _ _ _, rM_0t (Or.inl rfl) hM0, fun y => absurd y (by decide), x_fl_tr (x_fl_0 h 0 (Or.inl rfl)) (x_fl_0 _ _ (Or.inl rfl))⟩
