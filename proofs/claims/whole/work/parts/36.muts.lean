/-! THE CLASS: what changes a school: points, covers, splittings. -/
theorem aF_aU (A : Ab) (f j : Nat) (v : Int) (a b : Nat) : aF (aU A f j v) a b = if a = f ∧ b = j then v else aF A a b := rfl
theorem aF_ne (A : Ab) {f j : Nat} {v : Int} {a b : Nat} (h : ¬ (a = f ∧ b = j)) : aF (aU A f j v) a b = aF A a b := if_neg h
theorem aF_eq (A : Ab) {f j : Nat} {v : Int} : aF (aU A f j v) f j = v := if_pos ⟨rfl, rfl⟩
/-- nothing beyond the school has changed -/
def x_fr (h h' : ux_H) : Prop := ∀ k, 16 ≤ k → ∀ j, h' k j = h k j
theorem x_fr_rf (h : ux_H) : x_fr h h := fun _ _ _ => rfl
theorem x_fr_tr {h h1 h2 : ux_H} (a : x_fr h h1) (b : x_fr h1 h2) : x_fr h h2 := fun k hk j => (b k hk j).trans (a k hk j)
theorem x_fr_si (h : ux_H) {f : Nat} (j : Nat) (x : Int32) (hf : f < 16) : x_fr h (xsi h f j x) := fun k hk a => by
  unfold xsi xsv
  rw [if_neg (by omega)]
theorem rC_aU {A : Ab} {h : ux_H} {f j : Nat} {v : Int} {x : Int32} (hC : rC 0 A h) (hx : x = iI v) (h1 : 1 ≤ f) : rC 0 (aU A f j v) (xsi h f j x) := by
  refine ⟨?_, ?_, fun a b hb => ?_⟩
  · rw [xgi_ne _ _ _ _ _ _ (by omega)]; exact hC.1
  · rw [xgi_ne _ _ _ _ _ _ (by omega)]; exact hC.2.1
  · have q := hC.2.2 a b hb
    rw [Nat.zero_add] at q ⊢
    rw [xgi_sif, aF_aU]
    split
    · exact hx
    · exact q
/-- a count among the school's own numbers -/
theorem rC_aU0 {A : Ab} {h : ux_H} {j : Nat} {v : Int} {x : Int32} (hC : rC 0 A h) (hx : x = iI v) (hj : 2 ≤ j) : rC 0 (aU A 0 j v) (xsi h 0 j x) := by
  refine ⟨?_, ?_, fun a b hb => ?_⟩
  · rw [xgi_ne _ _ _ _ _ _ (by omega)]; exact hC.1
  · rw [xgi_ne _ _ _ _ _ _ (by omega)]; exact hC.2.1
  · have q := hC.2.2 a b hb
    rw [Nat.zero_add] at q ⊢
    rw [xgi_sif, aF_aU]
    split
    · exact hx
    · exact q
theorem mP_l {l : Launch} {G : ux_G} {h : ux_H} {f i : Nat} {x : Int32} (hi : i < 40) (hf : (Nat.ble 8 f && Nat.ble f 15) = true) : ux_F l G yX5_put iX5_put 1 0 [.ref f, .int (nI i), .int x] h none (xsi h f i x) := by
  simp only [Bool.and_eq_true] at hf
  have h1 := Nat.le_of_ble_eq_true hf.1
  have h2 := Nat.le_of_ble_eq_true hf.2
  exact mX5_put (xk_l f (by omega) h1).1 (by rw [(xk_l f (by omega) h1).2]; omega)
theorem mP_t {l : Launch} {G : ux_G} {h : ux_H} {f i : Nat} {x : Int32} (hi : i < 8) (hf : (Nat.ble 1 f && Nat.ble f 5) = true) : ux_F l G yX5_put iX5_put 1 0 [.ref f, .int (nI i), .int x] h none (xsi h f i x) := by
  simp only [Bool.and_eq_true] at hf
  have h1 := Nat.le_of_ble_eq_true hf.1
  have h2 := Nat.le_of_ble_eq_true hf.2
  exact mX5_put (xk_t f (by omega) h1).1 (by rw [(xk_t f (by omega) h1).2]; omega)
/-- points are added -/
def s_add (A : Ab) (t : Nat) (v : Int) : Ab := aU A 4 t (aF A 4 t + v)
theorem rC_add {A : Ab} {h : ux_H} (t : Nat) (v : Int) (hC : rC 0 A h) : rC 0 (s_add A t v) (xsi h 4 t (iI (aF A 4 t + v))) := rC_aU hC rfl (by decide)
theorem Inv_add {P B : Nat} {A : Ab} {t : Nat} {v : Int} (hI : Inv P A) (hv : -(B : Int) ≤ v ∧ v ≤ B) (hP : P + B ≤ 10000000) : Inv (P + B) (s_add A t v) := by
  obtain ⟨i1, i2, i3, i4, i5, i6⟩ := hI
  refine ⟨i1, i2, hP, fun a ha => ?_, fun c hc => i5 c hc, fun i hi => i6 i hi⟩
  have q := i4 a ha
  have e : aF (s_add A t v) 4 a = if a = t then aF A 4 t + v else aF A 4 a := by
    unfold s_add; rw [aF_aU]; by_cases z : a = t <;> simp [z]
  refine ⟨q.1, q.2.1, q.2.2.1, q.2.2.2.1, q.2.2.2.2.1, q.2.2.2.2.2.1, ?_, ?_, q.2.2.2.2.2.2.2.2.1, q.2.2.2.2.2.2.2.2.2⟩
  · rw [e]; split
    · next z => subst z; omega
    · omega
  · rw [e]; split
    · next z => subst z; omega
    · omega
theorem Inv_mono {P Q : Nat} {A : Ab} (hI : Inv P A) (h : P ≤ Q) (hQ : Q ≤ 10000000) : Inv Q A := by
  obtain ⟨i1, i2, i3, i4, i5, i6⟩ := hI
  exact ⟨i1, i2, hQ, fun t ht => by have q := i4 t ht; omega, i5, i6⟩
/-- a coverer or host is set -/
theorem Inv_13 {P : Nat} {A : Ab} {j : Nat} {v : Int} (hI : Inv P A) (hv : -1 ≤ v ∧ v < A.1) : Inv P (aU A 13 j v) := by
  obtain ⟨i1, i2, i3, i4, i5, i6⟩ := hI
  refine ⟨i1, i2, i3, i4, i5, fun i hi => ?_⟩
  have q := i6 i hi
  have e : aF (aU A 13 j v) 13 i = if i = j then v else aF A 13 i := by rw [aF_aU]; by_cases z : i = j <;> simp [z]
  refine ⟨q.1, q.2.1, q.2.2.1, q.2.2.2.1, q.2.2.2.2.1, q.2.2.2.2.2.1, q.2.2.2.2.2.2.1, q.2.2.2.2.2.2.2.1, q.2.2.2.2.2.2.2.2.1, q.2.2.2.2.2.2.2.2.2.1, ?_, ?_, q.2.2.2.2.2.2.2.2.2.2.2.2⟩
  · rw [e]; split <;> omega
  · rw [e]; show _ < (A.1 : Int); split <;> omega
theorem Inv_14 {P : Nat} {A : Ab} {f j : Nat} {v : Int} (hI : Inv P A) (hf : f = 14 ∨ f = 15) (hv : -1 ≤ v ∧ v < A.2.1) : Inv P (aU A f j v) := by
  obtain ⟨i1, i2, i3, i4, i5, i6⟩ := hI
  have n4 : ∀ a b, a ≤ 13 → aF (aU A f j v) a b = aF A a b := fun a b ha => aF_ne A (by omega)
  refine ⟨i1, i2, i3, fun t ht => ?_, fun c hc => ?_, fun i hi => ?_⟩
  · rw [n4 1 t (by omega), n4 2 t (by omega), n4 3 t (by omega), n4 4 t (by omega), n4 5 t (by omega)]
    exact i4 t ht
  · rw [n4 6 c (by omega), n4 7 c (by omega)]
    exact i5 c hc
  · have q := i6 i hi
    rw [n4 8 i (by omega), n4 9 i (by omega), n4 10 i (by omega), n4 11 i (by omega), n4 12 i (by omega), n4 13 i (by omega)]
    rw [aF_aU, aF_aU]
    show 0 ≤ aF A 8 i ∧ aF A 8 i < 30 ∧ 0 ≤ aF A 9 i ∧ aF A 9 i < 6 ∧ 0 ≤ aF A 10 i ∧ aF A 10 i < 6 ∧ 0 ≤ aF A 11 i ∧ aF A 11 i < (A.1 : Int) ∧ 0 ≤ aF A 12 i ∧ aF A 12 i < 6 ∧ -1 ≤ aF A 13 i ∧ aF A 13 i < (A.1 : Int) ∧ _ ∧ _ < (A.2.1 : Int) ∧ _ ∧ _ < (A.2.1 : Int)
    refine ⟨by omega, by omega, by omega, by omega, by omega, by omega, by omega, by omega, by omega, by omega, by omega, by omega, ?_, ?_, ?_, ?_⟩
    all_goals split <;> omega
set_option maxRecDepth 100000 in
theorem mX4_addPoints {l : Launch} {G : ux_G} {h : ux_H} {t : Nat} {v : Int} {A : Ab} (hC : rC 0 A h) (i1 : A.1 ≤ 8) (i2 : A.2.1 ≤ 40) (ht : t < A.1) : ux_F l G yX4_addPoints iX4_addPoints 2 0 [.ref 0, .int (nI t), .int (iI v)] h (none) (xsi h 4 t (iI (aF A 4 t + v))) := by
  unfold ux_F
  refine ux_ent (L' := [some (.ref 0), some (.int (nI t)), some (.int (iI v))]) kX4_addPoints rfl rfl rfl rfl ?_
  refine g_aload_n dX4_addPoints_0 rfl ?_
  refine g_getr (q := 4) fX4_34 dX4_addPoints_1 rfl rfl rfl ?_
  refine g_iload_n dX4_addPoints_4 rfl ?_
  refine g_aload_n dX4_addPoints_5 rfl ?_
  refine g_getr (q := 4) fX4_34 dX4_addPoints_6 rfl rfl rfl ?_
  refine g_iload_n dX4_addPoints_9 rfl ?_
  refine f1_SN (u' := 0) lX4_85 kX5_at (mA_t (f := 4) hC i1 (by assumption) rfl) dX4_addPoints_10 rfl rfl rfl rfl rfl rfl ?_
  refine g_iload_n dX4_addPoints_13 rfl ?_
  refine g_iadd dX4_addPoints_14 ?_
  refine g_top (iI_add _ _) ?_
  refine f0_SN (u' := 0) lX4_81 kX5_put (mP_t (f := 4) (by omega) rfl) dX4_addPoints_15 rfl rfl rfl rfl rfl rfl ?_
  refine g_return dX4_addPoints_18 rfl (by decide) ?_
  exact ⟨rfl, rfl⟩
def s_begin (A : Ab) (i t : Nat) : Ab := s_add (aU A 13 i t) t (s_worth A i t)
set_option maxRecDepth 100000 in
theorem mX4_beginCover {l : Launch} {G : ux_G} {h : ux_H} {i t : Nat} {A : Ab} {P : Nat} (hC : rC 0 A h) (hI : Inv P A) (hi : i < A.2.1) (ht : t < A.1) : ux_M l G yX4_beginCover iX4_beginCover 4 0 [.ref 0, .int (nI i), .int (nI t)] h (fun v h' => v = none ∧ rC 0 (s_begin A i t) h' ∧ x_fr h h') (fun _ _ => False) := by
  refine ux_ent (L' := [some (.ref 0), some (.int (nI i)), some (.int (nI t))]) kX4_beginCover rfl rfl rfl rfl ?_
  obtain ⟨i1, i2, i3, i4, i5, i6⟩ := id hI
  refine g_aload_n dX4_beginCover_0 rfl ?_
  refine g_getr (q := 13) fX4_61 dX4_beginCover_1 rfl rfl rfl ?_
  refine g_iload_n dX4_beginCover_4 rfl ?_
  refine g_iload_n dX4_beginCover_5 rfl ?_
  refine f0_SN (u' := 0) lX4_81 kX5_put (mP_l (f := 13) (by omega) rfl) dX4_beginCover_6 rfl rfl rfl rfl rfl rfl ?_
  have hC1 := rC_aU (f := 13) (j := i) hC (nI_iI t) (by decide)
  have hI1 : Inv P (aU A 13 i t) := Inv_13 hI (by omega)
  refine g_aload_n dX4_beginCover_9 rfl ?_
  refine g_iload_n dX4_beginCover_10 rfl ?_
  refine g_aload_n dX4_beginCover_11 rfl ?_
  refine g_iload_n dX4_beginCover_12 rfl ?_
  refine g_iload_n dX4_beginCover_13 rfl ?_
  refine f1_V (u' := 0) lX4_120 kX4_pointsFor (mX4_pointsFor hC1 hI1 hi ht) dX4_beginCover_14 rfl rfl rfl rfl rfl rfl rfl rfl ?_
  refine f0_V (u' := 0) lX4_169 kX4_addPoints (mX4_addPoints hC1 i1 i2 ht) dX4_beginCover_17 rfl rfl rfl rfl rfl rfl rfl rfl ?_
  refine g_return dX4_beginCover_20 rfl (by decide) ?_
  exact ⟨rfl, rC_aU hC1 rfl (by decide), x_fr_tr (x_fr_si h i (nI t) (by decide)) (x_fr_si _ t _ (by decide))⟩
def s_endc (A : Ab) (i : Nat) : Ab := if aF A 13 i = -1 then A else aU (s_add A (aF A 13 i).toNat (-(s_worth A i (aF A 13 i).toNat))) 13 i (-1)
def s_ecn (A : Ab) (i : Nat) : Nat := if aF A 13 i = -1 then 0 else 1
set_option maxRecDepth 100000 in
theorem mX4_endCover {l : Launch} {G : ux_G} {h : ux_H} {i : Nat} {A : Ab} {P : Nat} (hC : rC 0 A h) (hI : Inv P A) (hi : i < A.2.1) : ux_M l G yX4_endCover iX4_endCover 4 0 [.ref 0, .int (nI i)] h (fun v h' => v = some (.int (nI (s_ecn A i))) ∧ rC 0 (s_endc A i) h' ∧ x_fr h h') (fun _ _ => False) := by
  refine ux_ent (L' := [some (.ref 0), some (.int (nI i)), none]) kX4_endCover rfl rfl rfl rfl ?_
  obtain ⟨i1, i2, i3, i4, i5, i6⟩ := id hI
  have il := i6 i hi
  refine g_aload_n dX4_endCover_0 rfl ?_
  refine g_getr (q := 13) fX4_61 dX4_endCover_1 rfl rfl rfl ?_
  refine g_iload_n dX4_endCover_4 rfl ?_
  refine f1_SN (u' := 0) lX4_85 kX5_at (mA_l (f := 13) hC i2 (by assumption) rfl) dX4_endCover_5 rfl rfl rfl rfl rfl rfl ?_
  refine s_i (i := 2) dX4_endCover_8 rfl rfl rfl rfl ?_
  dsimp only [List.set]
  refine g_iload_n dX4_endCover_9 rfl ?_
  refine g_iconst (v := (-1)) dX4_endCover_10 (by decide) ?_
  refine g_icmp_ne (tgt := 16) dX4_endCover_11 (by decide) (fun c11 => ?_) (fun c11 => ?_)
  · rw [xqm (by omega) (by omega)] at c11
    have ht : (aF A 13 i).toNat < A.1 := by omega
    rw [iI_get (a := aF A 13 i) (by omega) (by omega)]
    refine g_aload_n dX4_endCover_16 rfl ?_
    refine g_iload_n dX4_endCover_17 rfl ?_
    refine g_aload_n dX4_endCover_18 rfl ?_
    refine g_iload_n dX4_endCover_19 rfl ?_
    refine g_iload_n dX4_endCover_20 rfl ?_
    refine f1_V (u' := 0) lX4_120 kX4_pointsFor (mX4_pointsFor hC hI (by assumption) (by assumption)) dX4_endCover_21 rfl rfl rfl rfl rfl rfl rfl rfl ?_
    refine g_ineg dX4_endCover_24 ?_
    refine g_top (iI_neg _) ?_
    refine f0_V (u' := 0) lX4_169 kX4_addPoints (mX4_addPoints hC i1 i2 (by assumption)) dX4_endCover_25 rfl rfl rfl rfl rfl rfl rfl rfl ?_
    have hC1 := rC_add (aF A 13 i).toNat (-(s_worth A i (aF A 13 i).toNat)) hC
    refine g_aload_n dX4_endCover_28 rfl ?_
    refine g_getr (q := 13) fX4_61 dX4_endCover_29 rfl rfl rfl ?_
    refine g_iload_n dX4_endCover_32 rfl ?_
    refine g_iconst (v := (-1)) dX4_endCover_33 (by decide) ?_
    refine f0_SN (u' := 0) lX4_81 kX5_put (mP_l (f := 13) (by omega) rfl) dX4_endCover_34 rfl rfl rfl rfl rfl rfl ?_
    refine g_iconst (v := 1) dX4_endCover_37 (by decide) ?_
    refine g_ireturn dX4_endCover_38 rfl rfl (by decide) ?_
    exact ⟨by unfold s_ecn; rw [if_neg c11]; rfl, by unfold s_endc; rw [if_neg c11]; exact rC_aU hC1 iI_m1 (by decide), x_fr_tr (x_fr_si h _ _ (by decide)) (x_fr_si _ i _ (by decide))⟩
  · rw [xqm (by omega) (by omega)] at c11
    refine g_iconst (v := 0) dX4_endCover_14 (by decide) ?_
    refine g_ireturn dX4_endCover_15 rfl rfl (by decide) ?_
    exact ⟨by unfold s_ecn; rw [if_pos c11]; rfl, by unfold s_endc; rw [if_pos c11]; exact hC, x_fr_rf h⟩
theorem s_act_ne {A : Ab} {f j : Nat} {v : Int} (hf : f ≠ 5 ∧ f ≠ 8 ∧ f ≠ 11 ∧ f ≠ 13) (i : Nat) : s_act (aU A f j v) i = s_act A i := by
  unfold s_act s_gone s_away s_own
  rw [aF_ne A (by omega), aF_ne A (by omega), aF_ne A (by omega), aF_ne A (by omega)]
theorem s_act_r {P : Nat} {A : Ab} (hI : Inv P A) {i : Nat} (hi : i < A.2.1) : -1 ≤ s_act A i ∧ s_act A i < A.1 := by
  have q := hI.2.2.2.2.2 i hi
  unfold s_act
  split <;> omega
def s_split (A : Ab) (i a b : Nat) : Ab := s_add (s_add (aU (aU A 14 i a) 15 i b) (s_act A a).toNat 1) (s_act A b).toNat 1
set_option maxRecDepth 100000 in
theorem mX4_beginSplit {l : Launch} {G : ux_G} {h : ux_H} {i a b : Nat} {A : Ab} {P : Nat} (hC : rC 0 A h) (hI : Inv P A) (hi : i < A.2.1) (ha : a < A.2.1) (hb : b < A.2.1) (na : s_act A a ≠ -1) (nb : s_act A b ≠ -1) (hP : P + 1 ≤ 10000000) : ux_M l G yX4_beginSplit iX4_beginSplit 4 0 [.ref 0, .int (nI i), .int (nI a), .int (nI b)] h (fun v h' => v = none ∧ rC 0 (s_split A i a b) h' ∧ x_fr h h') (fun _ _ => False) := by
  refine ux_ent (L' := [some (.ref 0), some (.int (nI i)), some (.int (nI a)), some (.int (nI b))]) kX4_beginSplit rfl rfl rfl rfl ?_
  obtain ⟨i1, i2, i3, i4, i5, i6⟩ := id hI
  refine g_aload_n dX4_beginSplit_0 rfl ?_
  refine g_getr (q := 14) fX4_64 dX4_beginSplit_1 rfl rfl rfl ?_
  refine g_iload_n dX4_beginSplit_4 rfl ?_
  refine g_iload_n dX4_beginSplit_5 rfl ?_
  refine f0_SN (u' := 0) lX4_81 kX5_put (mP_l (f := 14) (by omega) rfl) dX4_beginSplit_6 rfl rfl rfl rfl rfl rfl ?_
  have hC1 := rC_aU (f := 14) (j := i) hC (nI_iI a) (by decide)
  have hI1 : Inv P (aU A 14 i a) := Inv_14 hI (Or.inl rfl) (by omega)
  refine g_aload_n dX4_beginSplit_9 rfl ?_
  refine g_getr (q := 15) fX4_67 dX4_beginSplit_10 rfl rfl rfl ?_
  refine g_iload_n dX4_beginSplit_13 rfl ?_
  refine g_iload_n dX4_beginSplit_14 rfl ?_
  refine f0_SN (u' := 0) lX4_81 kX5_put (mP_l (f := 15) (by omega) rfl) dX4_beginSplit_15 rfl rfl rfl rfl rfl rfl ?_
  have hC2 := rC_aU (f := 15) (j := i) hC1 (nI_iI b) (by decide)
  have hI2 : Inv P (aU (aU A 14 i a) 15 i b) := Inv_14 hI1 (Or.inr rfl) ⟨by omega, by show (b : Int) < (A.2.1 : Int); omega⟩
  have ea : s_act (aU (aU A 14 i a) 15 i b) a = s_act A a := by rw [s_act_ne (by decide), s_act_ne (by decide)]
  have eb : s_act (aU (aU A 14 i a) 15 i b) b = s_act A b := by rw [s_act_ne (by decide), s_act_ne (by decide)]
  have ra := s_act_r hI ha
  have rb := s_act_r hI hb
  have ta : (s_act A a).toNat < A.1 := by omega
  have tb : (s_act A b).toNat < A.1 := by omega
  refine g_aload_n dX4_beginSplit_18 rfl ?_
  refine g_aload_n dX4_beginSplit_19 rfl ?_
  refine g_iload_n dX4_beginSplit_20 rfl ?_
  refine f1_V (u' := 0) lX4_123 kX4_actingOf (mX4_actingOf hC2 hI2 ha) dX4_beginSplit_21 rfl rfl rfl rfl rfl rfl rfl rfl ?_
  refine g_top (y := nI (s_act A a).toNat) (by rw [ea]; exact iI_get (by omega) (by omega)) ?_
  refine g_iconst (v := 1) dX4_beginSplit_24 (by decide) ?_
  refine f0_V (u' := 0) lX4_169 kX4_addPoints (mX4_addPoints (v := 1) hC2 i1 i2 ta) dX4_beginSplit_25 rfl rfl rfl rfl rfl rfl rfl rfl ?_
  have hC3 := rC_add (s_act A a).toNat 1 hC2
  have hI3 : Inv (P + 1) (s_add (aU (aU A 14 i a) 15 i b) (s_act A a).toNat 1) := Inv_add (B := 1) hI2 (by decide) hP
  refine g_aload_n dX4_beginSplit_28 rfl ?_
  refine g_aload_n dX4_beginSplit_29 rfl ?_
  refine g_iload_n dX4_beginSplit_30 rfl ?_
  refine f1_V (u' := 0) lX4_123 kX4_actingOf (mX4_actingOf (A := s_add (aU (aU A 14 i a) 15 i b) (s_act A a).toNat 1) hC3 hI3 hb) dX4_beginSplit_31 rfl rfl rfl rfl rfl rfl rfl rfl ?_
  refine g_top (y := nI (s_act A b).toNat) (by unfold s_add; rw [s_act_ne (by decide), eb]; exact iI_get (by omega) (by omega)) ?_
  refine g_iconst (v := 1) dX4_beginSplit_34 (by decide) ?_
  refine f0_V (u' := 0) lX4_169 kX4_addPoints (mX4_addPoints (v := 1) (A := s_add (aU (aU A 14 i a) 15 i b) (s_act A a).toNat 1) hC3 i1 i2 tb) dX4_beginSplit_35 rfl rfl rfl rfl rfl rfl rfl rfl ?_
  refine g_return dX4_beginSplit_38 rfl (by decide) ?_
  exact ⟨rfl, rC_aU hC3 rfl (by decide), x_fr_tr (x_fr_si h i _ (by decide)) (x_fr_tr (x_fr_si _ i _ (by decide)) (x_fr_tr (x_fr_si _ _ _ (by decide)) (x_fr_si _ _ _ (by decide))))⟩
/-- hosts of a split lesson are there, and have acting teachers -/
def HO (A : Ab) : Prop := ∀ i, i < A.2.1 → aF A 14 i ≠ -1 → aF A 15 i ≠ -1 ∧ s_act A (aF A 14 i).toNat ≠ -1 ∧ s_act A (aF A 15 i).toNat ≠ -1
theorem HO_of {A : Ab} (hJ : InvF A) : HO A := fun i hi h1 => by
  have q := hJ.2.2.2.1 i hi h1
  exact ⟨fun e => h1 ((hJ.2.2.1 i hi).mpr e), q.2.2.2.2.1, q.2.2.2.2.2⟩
def s_ends (A : Ab) (i : Nat) : Ab := aU (aU (s_add (s_add A (s_act A (aF A 14 i).toNat).toNat (-1)) (s_act A (aF A 15 i).toNat).toNat (-1)) 14 i (-1)) 15 i (-1)
theorem Inv_ends {P : Nat} {A : Ab} {i : Nat} (hI : Inv P A) (hP : P + 2 ≤ 10000000) : Inv (P + 2) (s_ends A i) := by
  have h1 := Inv_add (B := 1) (t := (s_act A (aF A 14 i).toNat).toNat) (v := -1) hI (by decide) (by omega)
  have h2 := Inv_add (B := 1) (t := (s_act A (aF A 15 i).toNat).toNat) (v := -1) h1 (by decide) (by omega)
  exact Inv_14 (Inv_14 h2 (Or.inl rfl) ⟨by decide, by omega⟩) (Or.inr rfl) ⟨by decide, by omega⟩
theorem s_ends_act (A : Ab) (i j : Nat) : s_act (s_ends A i) j = s_act A j := by
  unfold s_ends s_add
  rw [s_act_ne (by decide), s_act_ne (by decide), s_act_ne (by decide), s_act_ne (by decide)]
theorem s_ends_aF (A : Ab) (i f j : Nat) (hf : f ≠ 4) : aF (s_ends A i) f j = if (f = 14 ∨ f = 15) ∧ j = i then -1 else aF A f j := by
  unfold s_ends s_add
  by_cases e : j = i
  · by_cases e14 : f = 14
    · subst e14; subst e
      rw [aF_ne _ (by omega), aF_eq]
      simp
    · by_cases e15 : f = 15
      · subst e15; subst e
        rw [aF_eq]
        simp
      · rw [aF_ne _ (by omega), aF_ne _ (by omega), aF_ne _ (by omega), aF_ne _ (by omega)]
        simp [e14, e15]
  · rw [aF_ne _ (by omega), aF_ne _ (by omega), aF_ne _ (by omega), aF_ne _ (by omega)]
    simp [e]
theorem HO_ends {A : Ab} {i : Nat} (hH : HO A) : HO (s_ends A i) := by
  intro j hj h1
  rw [s_ends_aF A i 14 j (by decide)] at h1 ⊢
  rw [s_ends_aF A i 15 j (by decide)]
  by_cases e : j = i
  · simp [e] at h1
  · simp only [e, and_false, if_false] at h1 ⊢
    rw [s_ends_act, s_ends_act]
    exact hH j hj h1
set_option maxRecDepth 100000 in
theorem mX4_endSplit {l : Launch} {G : ux_G} {h : ux_H} {i : Nat} {A : Ab} {P : Nat} (hC : rC 0 A h) (hI : Inv P A) (hi : i < A.2.1) (h14 : aF A 14 i ≠ -1) (hH : HO A) (hP : P + 2 ≤ 10000000) : ux_M l G yX4_endSplit iX4_endSplit 4 0 [.ref 0, .int (nI i)] h (fun v h' => v = none ∧ rC 0 (s_ends A i) h' ∧ x_fr h h') (fun _ _ => False) := by
  refine ux_ent (L' := [some (.ref 0), some (.int (nI i))]) kX4_endSplit rfl rfl rfl rfl ?_
  obtain ⟨i1, i2, i3, i4, i5, i6⟩ := id hI
  have il := i6 i hi
  obtain ⟨q1, q2, q3⟩ := hH i hi h14
  have ha : (aF A 14 i).toNat < A.2.1 := by omega
  have hb : (aF A 15 i).toNat < A.2.1 := by omega
  have ra := s_act_r hI ha
  have rb := s_act_r hI hb
  have ta : (s_act A (aF A 14 i).toNat).toNat < A.1 := by omega
  have tb : (s_act A (aF A 15 i).toNat).toNat < A.1 := by omega
  refine g_aload_n dX4_endSplit_0 rfl ?_
  refine g_aload_n dX4_endSplit_1 rfl ?_
  refine g_aload_n dX4_endSplit_2 rfl ?_
  refine g_getr (q := 14) fX4_64 dX4_endSplit_3 rfl rfl rfl ?_
  refine g_iload_n dX4_endSplit_6 rfl ?_
  refine f1_SN (u' := 0) lX4_85 kX5_at (mA_l (f := 14) hC i2 (by assumption) rfl) dX4_endSplit_7 rfl rfl rfl rfl rfl rfl ?_
  refine g_top (y := nI (aF A 14 i).toNat) (iI_get (by omega) (by omega)) ?_
  refine f1_V (u' := 0) lX4_123 kX4_actingOf (mX4_actingOf hC hI ha) dX4_endSplit_10 rfl rfl rfl rfl rfl rfl rfl rfl ?_
  refine g_top (y := nI (s_act A (aF A 14 i).toNat).toNat) (iI_get (by omega) (by omega)) ?_
  refine g_iconst (v := (-1)) dX4_endSplit_13 (by decide) ?_
  refine f0_V (u' := 0) lX4_169 kX4_addPoints (mX4_addPoints (v := -1) hC i1 i2 ta) dX4_endSplit_14 rfl rfl rfl rfl rfl rfl rfl rfl ?_
  have hC1 := rC_add (s_act A (aF A 14 i).toNat).toNat (-1) hC
  have hI1 : Inv (P + 1) (s_add A (s_act A (aF A 14 i).toNat).toNat (-1)) := Inv_add (B := 1) hI (by decide) (by omega)
  refine g_aload_n dX4_endSplit_17 rfl ?_
  refine g_aload_n dX4_endSplit_18 rfl ?_
  refine g_aload_n dX4_endSplit_19 rfl ?_
  refine g_getr (q := 15) fX4_67 dX4_endSplit_20 rfl rfl rfl ?_
  refine g_iload_n dX4_endSplit_23 rfl ?_
  refine f1_SN (u' := 0) lX4_85 kX5_at (mA_l (f := 15) (A := (s_add A (s_act A (aF A 14 i).toNat).toNat (-1))) hC1 i2 hi rfl) dX4_endSplit_24 rfl rfl rfl rfl rfl rfl ?_
  refine g_top (y := nI (aF A 15 i).toNat) (by show iI (aF A 15 i) = _; exact iI_get (by omega) (by omega)) ?_
  refine f1_V (u' := 0) lX4_123 kX4_actingOf (mX4_actingOf (A := (s_add A (s_act A (aF A 14 i).toNat).toNat (-1))) hC1 hI1 hb) dX4_endSplit_27 rfl rfl rfl rfl rfl rfl rfl rfl ?_
  refine g_top (y := nI (s_act A (aF A 15 i).toNat).toNat) (by unfold s_add; rw [s_act_ne (by decide)]; exact iI_get (by omega) (by omega)) ?_
  refine g_iconst (v := (-1)) dX4_endSplit_30 (by decide) ?_
  refine f0_V (u' := 0) lX4_169 kX4_addPoints (mX4_addPoints (v := -1) (A := (s_add A (s_act A (aF A 14 i).toNat).toNat (-1))) hC1 i1 i2 tb) dX4_endSplit_31 rfl rfl rfl rfl rfl rfl rfl rfl ?_
  have hC2 := rC_add (s_act A (aF A 15 i).toNat).toNat (-1) hC1
  refine g_aload_n dX4_endSplit_34 rfl ?_
  refine g_getr (q := 14) fX4_64 dX4_endSplit_35 rfl rfl rfl ?_
  refine g_iload_n dX4_endSplit_38 rfl ?_
  refine g_iconst (v := (-1)) dX4_endSplit_39 (by decide) ?_
  refine f0_SN (u' := 0) lX4_81 kX5_put (mP_l (f := 14) (by omega) rfl) dX4_endSplit_40 rfl rfl rfl rfl rfl rfl ?_
  have hC3 := rC_aU (f := 14) (j := i) hC2 iI_m1 (by decide)
  refine g_aload_n dX4_endSplit_43 rfl ?_
  refine g_getr (q := 15) fX4_67 dX4_endSplit_44 rfl rfl rfl ?_
  refine g_iload_n dX4_endSplit_47 rfl ?_
  refine g_iconst (v := (-1)) dX4_endSplit_48 (by decide) ?_
  refine f0_SN (u' := 0) lX4_81 kX5_put (mP_l (f := 15) (by omega) rfl) dX4_endSplit_49 rfl rfl rfl rfl rfl rfl ?_
  have hC4 := rC_aU (f := 15) (j := i) hC3 iI_m1 (by decide)
  refine g_return dX4_endSplit_52 rfl (by decide) ?_
  exact ⟨rfl, hC4, x_fr_tr (x_fr_si h _ _ (by decide)) (x_fr_tr (x_fr_si _ _ _ (by decide)) (x_fr_tr (x_fr_si _ i _ (by decide)) (x_fr_si _ i _ (by decide))))⟩
def s_sw (A : Ab) (m i : Nat) : Bool := decide (aF A 14 m ≠ -1) && (decide (m = i) || decide (aF A 14 m = i) || decide (aF A 15 m = i))
set_option maxRecDepth 100000 in
theorem mX4_isSplitWith {l : Launch} {G : ux_G} {h : ux_H} {m i : Nat} {A : Ab} {P : Nat} (hC : rC 0 A h) (hI : Inv P A) (hm : m < A.2.1) (hi : i < 40) : ux_F l G yX4_isSplitWith iX4_isSplitWith 2 0 [.ref 0, .int (nI m), .int (nI i)] h (some (.int (if s_sw A m i then 1 else 0))) (h) := by
  unfold ux_F
  refine ux_ent (L' := [some (.ref 0), some (.int (nI m)), some (.int (nI i)), none]) kX4_isSplitWith rfl rfl rfl rfl ?_
  obtain ⟨i1, i2, i3, i4, i5, i6⟩ := id hI
  have ml := i6 m hm
  refine g_aload_n dX4_isSplitWith_0 rfl ?_
  refine g_getr (q := 14) fX4_64 dX4_isSplitWith_1 rfl rfl rfl ?_
  refine g_iload_n dX4_isSplitWith_4 rfl ?_
  refine f1_SN (u' := 0) lX4_85 kX5_at (mA_l (f := 14) hC i2 (by assumption) rfl) dX4_isSplitWith_5 rfl rfl rfl rfl rfl rfl ?_
  refine s_i (i := 3) dX4_isSplitWith_8 rfl rfl rfl rfl ?_
  dsimp only [List.set]
  refine g_iload_n dX4_isSplitWith_9 rfl ?_
  refine g_iconst (v := (-1)) dX4_isSplitWith_10 (by decide) ?_
  refine g_icmp_eq (tgt := 40) dX4_isSplitWith_11 (by decide) (fun c11 => ?_) (fun c11 => ?_)
  · rw [xqm (by omega) (by omega)] at c11
    refine g_iconst (v := 0) dX4_isSplitWith_40 (by decide) ?_
    refine g_ireturn dX4_isSplitWith_41 rfl rfl (by decide) ?_
    exact ⟨by first | (simp [s_sw, c11]; done) | (subst c16; simp [s_sw, c11]), rfl⟩
  · rw [xqm (by omega) (by omega)] at c11
    refine g_iload_n dX4_isSplitWith_14 rfl ?_
    refine g_iload_n dX4_isSplitWith_15 rfl ?_
    refine g_icmp_eq (tgt := 36) dX4_isSplitWith_16 (by decide) (fun c16 => ?_) (fun c16 => ?_)
    · rw [nI_eq (by omega) (by omega)] at c16
      refine g_iconst (v := 1) dX4_isSplitWith_36 (by decide) ?_
      refine g_goto (tgt := 41) dX4_isSplitWith_37 (by decide) ?_
      refine g_ireturn dX4_isSplitWith_41 rfl rfl (by decide) ?_
      exact ⟨by first | (simp [s_sw, c11, c16]; done) | (subst c16; simp [s_sw, c11]), rfl⟩
    · rw [nI_eq (by omega) (by omega)] at c16
      refine g_iload_n dX4_isSplitWith_19 rfl ?_
      refine g_iload_n dX4_isSplitWith_20 rfl ?_
      refine g_icmp_eq (tgt := 36) dX4_isSplitWith_21 (by decide) (fun c21 => ?_) (fun c21 => ?_)
      · rw [xq (by omega) (by omega) (by omega)] at c21
        refine g_iconst (v := 1) dX4_isSplitWith_36 (by decide) ?_
        refine g_goto (tgt := 41) dX4_isSplitWith_37 (by decide) ?_
        refine g_ireturn dX4_isSplitWith_41 rfl rfl (by decide) ?_
        exact ⟨by first | (simp [s_sw, c11, c16, c21]; done) | (subst c16; simp [s_sw, c11]), rfl⟩
      · rw [xq (by omega) (by omega) (by omega)] at c21
        refine g_aload_n dX4_isSplitWith_24 rfl ?_
        refine g_getr (q := 15) fX4_67 dX4_isSplitWith_25 rfl rfl rfl ?_
        refine g_iload_n dX4_isSplitWith_28 rfl ?_
        refine f1_SN (u' := 0) lX4_85 kX5_at (mA_l (f := 15) hC i2 (by assumption) rfl) dX4_isSplitWith_29 rfl rfl rfl rfl rfl rfl ?_
        refine g_iload_n dX4_isSplitWith_32 rfl ?_
        refine g_icmp_ne (tgt := 40) dX4_isSplitWith_33 (by decide) (fun c33 => ?_) (fun c33 => ?_)
        · rw [xq (by omega) (by omega) (by omega)] at c33
          refine g_iconst (v := 0) dX4_isSplitWith_40 (by decide) ?_
          refine g_ireturn dX4_isSplitWith_41 rfl rfl (by decide) ?_
          exact ⟨by first | (simp [s_sw, c11, c16, c21, c33]; done) | (subst c16; simp [s_sw, c11]), rfl⟩
        · rw [xq (by omega) (by omega) (by omega)] at c33
          refine g_iconst (v := 1) dX4_isSplitWith_36 (by decide) ?_
          refine g_goto (tgt := 41) dX4_isSplitWith_37 (by decide) ?_
          refine g_ireturn dX4_isSplitWith_41 rfl rfl (by decide) ?_
          exact ⟨by first | (simp [s_sw, c11, c16, c21, c33]; done) | (subst c16; simp [s_sw, c11]), rfl⟩
/-- all splittings of a kind below n end: the school, and how many -/
def s_esw (sw : Ab → Nat → Bool) (A : Ab) : Nat → Ab × Nat
  | 0 => (A, 0)
  | n + 1 => if sw (s_esw sw A n).1 n then (s_ends (s_esw sw A n).1 n, (s_esw sw A n).2 + 1) else s_esw sw A n
theorem s_esw_t {sw : Ab → Nat → Bool} {A : Ab} {n : Nat} (h : sw (s_esw sw A n).1 n = true) : s_esw sw A (n + 1) = (s_ends (s_esw sw A n).1 n, (s_esw sw A n).2 + 1) := by
  show (if _ then _ else _) = _
  rw [if_pos h]
theorem s_esw_f {sw : Ab → Nat → Bool} {A : Ab} {n : Nat} (h : ¬ sw (s_esw sw A n).1 n = true) : s_esw sw A (n + 1) = s_esw sw A n := by
  show (if _ then _ else _) = _
  rw [if_neg h]
theorem s_esw_I {sw : Ab → Nat → Bool} {A : Ab} {P : Nat} (hI : Inv P A) (hH : HO A) (n : Nat) (hP : P + 2 * n ≤ 10000000) : Inv (P + 2 * n) (s_esw sw A n).1 ∧ HO (s_esw sw A n).1 ∧ (s_esw sw A n).1.1 = A.1 ∧ (s_esw sw A n).1.2.1 = A.2.1 ∧ (s_esw sw A n).2 ≤ n := by
  induction n with
  | zero => exact ⟨hI, hH, rfl, rfl, Nat.le_refl _⟩
  | succ n ih =>
    obtain ⟨a, b, c, d, e⟩ := ih (by omega)
    by_cases q : sw (s_esw sw A n).1 n = true
    · rw [s_esw_t q]
      exact ⟨Inv_mono (Inv_ends a (by omega)) (by omega) hP, HO_ends b, c, d, by show _ + 1 ≤ _; omega⟩
    · rw [s_esw_f q]
      exact ⟨Inv_mono a (by omega) hP, b, c, d, by omega⟩
def s_swi (i : Nat) : Ab → Nat → Bool := fun B m => s_sw B m i
set_option maxRecDepth 100000 in
theorem wX4_endSplitsWith {l : Launch} {G : ux_G} {h0 : ux_H} {A : Ab} {P : Nat} {i : Nat} (hI : Inv P A) (hH : HO A) (hP : P + 80 ≤ 10000000) (hi : i < 40) : ∀ (n : Nat) (j : Nat) (h : ux_H), j ≤ A.2.1 → rC 0 (s_esw (s_swi i) A j).1 h → x_fr h0 h → A.2.1 - j < n → ux_W l G iX4_endSplitsWith (ux_rm 5 0) (ux_Z G 0 (fun v h' => v = some (.int (nI (s_esw (s_swi i) A A.2.1).2)) ∧ rC 0 (aU (s_esw (s_swi i) A A.2.1).1 0 3 (aF (s_esw (s_swi i) A A.2.1).1 0 3 + (s_esw (s_swi i) A A.2.1).2)) h' ∧ x_fr h0 h') (fun _ _ => False)) 4 [some (.ref 0), some (.int (nI i)), some (.int (nI (s_esw (s_swi i) A j).2)), some (.int (nI j))] [] (h) 0 := by
  intro n
  induction n with
  | zero => intro j h hj hC hF hn; exact absurd hn (Nat.not_lt_zero _)
  | succ n ih =>
    intro j h hj hC hF hn
    obtain ⟨i1, i2, i3, i4, i5, i6⟩ := id hI
    obtain ⟨i0, b0, d1, d2, d3⟩ := s_esw_I (sw := s_swi i) hI hH j (by omega)
    have e4 : xgi h 0 1 = nI A.2.1 := by rw [hC.2.1, d2]
    refine g_iload_n dX4_endSplitsWith_4 rfl ?_
    refine g_aload_n dX4_endSplitsWith_5 rfl ?_
    refine g_geti fX4_15 dX4_endSplitsWith_6 rfl rfl ?_
    refine g_top (e4) ?_
    refine g_icmp_ge (tgt := 35) dX4_endSplitsWith_9 (by decide) (fun c9 => ?_) (fun c9 => ?_)
    · have e : j = A.2.1 := by have := xlt_i c9 (by omega) (by omega); omega
      subst e
      refine g_aload_n dX4_endSplitsWith_35 rfl ?_
      refine g_dup dX4_endSplitsWith_36 rfl ?_
      refine g_geti fX4_21 dX4_endSplitsWith_37 rfl rfl ?_
      refine g_iload_n dX4_endSplitsWith_40 rfl ?_
      refine g_iadd dX4_endSplitsWith_41 ?_
      refine g_puti pX4_21 dX4_endSplitsWith_42 rfl rfl ?_
      refine g_iload_n dX4_endSplitsWith_45 rfl ?_
      refine g_ireturn dX4_endSplitsWith_46 rfl rfl (by decide) ?_
      refine ⟨rfl, ?_, x_fr_tr hF (x_fr_si h 3 _ (by decide))⟩
      refine rC_aU0 hC ?_ (by decide)
      have e0 := hC.2.2 0 3 (Or.inl ⟨rfl, Or.inr rfl⟩)
      rw [Nat.zero_add] at e0
      rw [e0, nI_iI, iI_add]
    · have hlt : j < A.2.1 := xnl_i c9 (by omega) (by omega)
      have hlt2 : j < (s_esw (s_swi i) A j).1.2.1 := by omega
      refine g_aload_n dX4_endSplitsWith_12 rfl ?_
      refine g_iload_n dX4_endSplitsWith_13 rfl ?_
      refine g_iload_n dX4_endSplitsWith_14 rfl ?_
      refine f1_V (u' := 0) lX4_179 kX4_isSplitWith (mX4_isSplitWith hC i0 hlt2 hi) dX4_endSplitsWith_15 rfl rfl rfl rfl rfl rfl rfl rfl ?_
      refine g_if_eq (tgt := 29) dX4_endSplitsWith_18 (by decide) (fun c18 => ?_) (fun c18 => ?_)
      · have q18 : ¬ s_swi i (s_esw (s_swi i) A j).1 j = true := xb_0.mp c18
        refine s_inc (v := nI (j + 1)) dX4_endSplitsWith_29 rfl nI_s rfl rfl rfl ?_
        dsimp only [List.set]
        refine g_goto (tgt := 4) dX4_endSplitsWith_32 (by decide) ?_
        have e9 := s_esw_f q18
        have ih9 := ih (j + 1) h (by omega) (by rw [e9]; exact hC) hF (by omega)
        rw [e9] at ih9
        exact ih9
      · have q18 : s_swi i (s_esw (s_swi i) A j).1 j = true := Decidable.not_not.mp ((not_congr xb_0).mp c18)
        have h14 : aF (s_esw (s_swi i) A j).1 14 j ≠ -1 := by unfold s_swi s_sw at q18; simp only [Bool.and_eq_true, decide_eq_true_eq] at q18; exact q18.1
        refine g_aload_n dX4_endSplitsWith_21 rfl ?_
        refine g_iload_n dX4_endSplitsWith_22 rfl ?_
        refine q_V (u' := 0) lX4_182 kX4_endSplit (mX4_endSplit hC i0 hlt2 h14 b0 (by omega)) dX4_endSplitsWith_23 rfl rfl rfl rfl rfl rfl rfl rfl (fun v h23 hq => ?_) (fun _ _ q => q.elim)
        obtain ⟨rfl, hC1, hF1⟩ := hq
        dsimp only [Option.toList, List.cons_append, List.nil_append]
        refine s_inc (v := nI ((s_esw (s_swi i) A j).2 + 1)) dX4_endSplitsWith_26 rfl nI_s rfl rfl rfl ?_
        dsimp only [List.set]
        refine s_inc (v := nI (j + 1)) dX4_endSplitsWith_29 rfl nI_s rfl rfl rfl ?_
        dsimp only [List.set]
        refine g_goto (tgt := 4) dX4_endSplitsWith_32 (by decide) ?_
        have e9 := s_esw_t q18
        have ih9 := ih (j + 1) h23 (by omega) (by rw [e9]; exact hC1) (x_fr_tr hF hF1) (by omega)
        rw [e9] at ih9
        exact ih9
set_option maxRecDepth 100000 in
theorem mX4_endSplitsWith {l : Launch} {G : ux_G} {h : ux_H} {i : Nat} {A : Ab} {P : Nat} (hC : rC 0 A h) (hI : Inv P A) (hH : HO A) (hP : P + 80 ≤ 10000000) (hi : i < 40) : ux_M l G yX4_endSplitsWith iX4_endSplitsWith 5 0 [.ref 0, .int (nI i)] h (fun v h' => v = some (.int (nI (s_esw (s_swi i) A A.2.1).2)) ∧ rC 0 (aU (s_esw (s_swi i) A A.2.1).1 0 3 (aF (s_esw (s_swi i) A A.2.1).1 0 3 + (s_esw (s_swi i) A A.2.1).2)) h' ∧ x_fr h h') (fun _ _ => False) := by
  refine ux_ent (L' := [some (.ref 0), some (.int (nI i)), none, none]) kX4_endSplitsWith rfl rfl rfl rfl ?_
  refine g_iconst (v := 0) dX4_endSplitsWith_0 (by decide) ?_
  refine s_i (i := 2) dX4_endSplitsWith_1 rfl rfl rfl rfl ?_
  dsimp only [List.set]
  refine g_iconst (v := 0) dX4_endSplitsWith_2 (by decide) ?_
  refine s_i (i := 3) dX4_endSplitsWith_3 rfl rfl rfl rfl ?_
  dsimp only [List.set]
  exact wX4_endSplitsWith (l := l) (G := G) hI hH hP hi (A.2.1 + 1) 0 h (Nat.zero_le _) hC (x_fr_rf h) (by omega)
