/-! THE CLASS: what is asked of the plans. -/
def pl_leg : Ab → List Nat → List Nat → Prop
  | _, [], [] => True
  | B, i :: R, t :: T => t < B.1 ∧ s_bar B i t = 0 ∧ pl_leg (s_begin B i t) R T
  | _, _, _ => False
theorem pl_go_leg {G : List Nat → Prop} : ∀ (R : List Nat) (B : Ab) (pre : List Nat) (a : pl_A), (∀ T, pl_leg B R T → G (pre ++ T)) → (a.1 ≠ 0 → G a.2.2) → ((pl_go R B pre a).1 ≠ 0 → G (pl_go R B pre a).2.2) := by
  intro R
  induction R with
  | nil =>
    intro B pre a h ha
    show (pl_jd B pre a).1 ≠ 0 → G (pl_jd B pre a).2.2
    unfold pl_jd
    split
    · intro _; have := h [] trivial; rwa [List.append_nil] at this
    · next q => intro _; exact ha (by omega)
  | cons i R ih =>
    intro B pre a h ha
    have k : ∀ n, n ≤ B.1 → ((pl_fo (fun t a => if s_bar B i t = 0 then pl_go R (s_begin B i t) (pre ++ [t]) a else a) n a).1 ≠ 0 → G (pl_fo (fun t a => if s_bar B i t = 0 then pl_go R (s_begin B i t) (pre ++ [t]) a else a) n a).2.2) := by
      intro n
      induction n with
      | zero => intro _; exact ha
      | succ n ih2 =>
        intro hn
        have q := ih2 (by omega)
        show ((if s_bar B i n = 0 then _ else _ : pl_A).1 ≠ 0 → G (if s_bar B i n = 0 then _ else _ : pl_A).2.2)
        by_cases y : s_bar B i n = 0
        · rw [if_pos y]
          refine ih _ _ _ (fun T hT => ?_) q
          rw [List.append_assoc]
          exact h (n :: T) ⟨by omega, y, hT⟩
        · rw [if_neg y]; exact q
    exact k B.1 (Nat.le_refl _)
theorem pl_of_leg (A : Ab) (d : Nat) (h : (pl_of A d).1 ≠ 0) : pl_leg A (s_opl A d 6) (pl_of A d).2.2 :=
  pl_go_leg (G := fun T => pl_leg A (s_opl A d 6) T) (s_opl A d 6) A [] (0, 0, []) (fun T hT => hT) (fun y => absurd rfl y) h
theorem pl_leg_len : ∀ {R T : List Nat} {B : Ab}, pl_leg B R T → T.length = R.length := by
  intro R
  induction R with
  | nil => intro T B h; cases T with | nil => rfl | cons t T => exact h.elim
  | cons i R ih => intro T B h; cases T with | nil => exact h.elim | cons t T => rw [List.length_cons, List.length_cons, ih h.2.2]
theorem pl_leg_lt : ∀ {R T : List Nat} {B : Ab}, pl_leg B R T → ∀ (k t : Nat), T[k]? = some t → t < B.1 := by
  intro R
  induction R with
  | nil => intro T B h; cases T with | nil => intro k t hk; exact absurd hk (by simp) | cons t T => exact h.elim
  | cons i R ih =>
    intro T B h
    cases T with
    | nil => exact h.elim
    | cons u T =>
      intro k t hk
      cases k with
      | zero => have : u = t := by simpa using hk
                rw [← this]; exact h.1
      | succ k => exact ih h.2.2 k t (by simpa using hk)
/-- the open lessons that are still to be covered -/
def pl_rest (B : Ab) (R : List Nat) : Prop := R.Nodup ∧ ∀ m, m ∈ R → m < B.2.1 ∧ s_st B m = 3
theorem pl_rest_step {B : Ab} {i t : Nat} {R : List Nat} (h : pl_rest B (i :: R)) : pl_rest (s_begin B i t) R := by
  obtain ⟨hN, hm⟩ := h
  rw [List.nodup_cons] at hN
  refine ⟨hN.2, fun m hr => ?_⟩
  obtain ⟨a, b⟩ := hm m (List.mem_cons_of_mem _ hr)
  have hne : m ≠ i := fun y => hN.1 (y ▸ hr)
  have e : ∀ f j, f ≠ 4 → (f ≠ 13 ∨ j ≠ i) → aF (s_begin B i t) f j = aF B f j := fun f j hf hx => by rw [s_begin_aF _ _ _ _ _ hf, if_neg (by omega)]
  exact ⟨a, by rw [s_st_of (fun k => e 5 k (by decide) (by omega)) (e 8 m (by decide) (by omega)) (e 11 m (by decide) (by omega)) (e 13 m (by decide) (by omega)) (e 14 m (by decide) (by omega))]; exact b⟩
theorem s_opl_ndq (A : Ab) (d : Nat) : (s_opl A d 6).Nodup := by
  have := s_opa_nd (A := A) (d := d) 6 0
  unfold s_opa at this
  rwa [show s_opp A (6 * d + 6 : Nat) 0 = [] from rfl, List.append_nil] at this
theorem pl_rest_opl {A : Ab} {d : Nat} : pl_rest A (s_opl A d 6) := ⟨s_opl_ndq A d, fun m hm => ⟨(s_opl_mem.mp hm).1, (s_opl_mem.mp hm).2.1⟩⟩
theorem pl_bg_ok : ∀ {R T : List Nat} {B : Ab} {P : Nat}, pl_leg B R T → Inv P B → InvF B → pl_rest B R → P + 6 * R.length ≤ 10000000 → Inv (P + 6 * R.length) (pl_bg B R T) ∧ InvF (pl_bg B R T) := by
  intro R
  induction R with
  | nil => intro T B P h hI hJ _ _; cases T with | nil => exact ⟨hI, hJ⟩ | cons t T => exact h.elim
  | cons i R ih =>
    intro T B P h hI hJ hr hP
    cases T with
    | nil => exact h.elim
    | cons t T =>
      rw [List.length_cons] at hP ⊢
      obtain ⟨p, q⟩ := hr.2 i List.mem_cons_self
      rw [show P + 6 * (R.length + 1) = P + 6 + 6 * R.length by omega]
      exact ih h.2.2 (s_begin_I hI h.1 (by omega)) (s_begin_J hJ p q h.2.1) (pl_rest_step hr) (by omega)
theorem rH_frK {Hs : List Ab} {h h' : ux_H} (hH : rH Hs h) (hF : x_frK h h') : rH Hs h' := by
  obtain ⟨w, a, b, c, d, e⟩ := hH
  have g : ∀ k j, k < 179 → xgi h' k j = xgi h k j := fun k j hk => by unfold xgi; rw [hF k (Or.inl hk) j]
  exact ⟨w, a, (g 177 1 (by decide)).trans b, (g 177 2 (by decide)).trans c, d, fun k A q => rC_ne (e k A q) fun a1 h1 _ b => hF a1 (by omega) b⟩
set_option maxRecDepth 100000 in
theorem mX5_needPlan {l : Launch} {G : ux_G} {h : ux_H} {n : Nat} {a : pl_A} (ha : rPa n a h) (hc : a.1 ≤ 1000000) : ux_M l G yX5_needPlan iX5_needPlan 2 1 [.ref 176] h (fun v h' => v = none ∧ h' = h ∧ a.1 ≠ 0) (fun E h' => E = "java/util/NoSuchElementException" ∧ h' = h ∧ a.1 = 0) := by
  refine ux_ent (L' := [some (.ref 176)]) kX5_needPlan rfl rfl rfl rfl ?_
  refine g_aload_n dX5_needPlan_0 rfl ?_
  refine g_getr (q := 179) fX5_32 dX5_needPlan_1 rfl rfl rfl ?_
  refine g_geti fX5_338 dX5_needPlan_4 rfl rfl ?_
  refine g_top (y := nI a.1) ha.1 ?_
  refine g_if_ne (tgt := 21) dX5_needPlan_7 (by decide) (fun c7 => ?_) (fun c7 => ?_)
  · have q7 : a.1 ≠ 0 := fun y => c7 (by rw [y]; rfl)
    refine g_return dX5_needPlan_21 rfl (by decide) ?_
    exact ⟨rfl, rfl, q7⟩
  · have q7 : a.1 = 0 := by rw [nI_iI, xq0 (by omega) (by omega)] at c7; omega
    refine g_throwNW tX5_422_224 dX5_needPlan_10 dX5_needPlan_13 dX5_needPlan_14 dX5_needPlan_17 dX5_needPlan_20 rfl rfl (by decide) ?_
    exact ⟨rfl, rfl, q7⟩
def k_plan (A : Ab) (a : Int) : Nat := if k_planDay A a ≠ 0 then k_planDay A a else if A.1 = 0 ∨ (pl_of A a.toNat).1 = 0 then 3 else 0
def k_planned (A : Ab) (a b : Int) : Nat := if k_planDay A a ≠ 0 then k_planDay A a else if (pl_of A a.toNat).1 = 0 ∨ ¬ (0 ≤ b ∧ b < (s_opl A a.toNat 6).length) then 3 else 0
theorem xc_pd {A : Ab} {a : Int} {K : Nat} {E : String} (q : xc (k_planDay A a) ["java/lang/IndexOutOfBoundsException", "java/lang/IllegalStateException"] E) (e : k_planDay A a ≠ 0 → K = k_planDay A a) : xc K ["java/lang/IndexOutOfBoundsException", "java/lang/IllegalStateException", "java/util/NoSuchElementException"] E := by
  obtain ⟨q1, q2⟩ := q
  have e2 := e (by omega)
  subst e2
  refine ⟨q1, ?_⟩
  have q3 := (List.getElem?_eq_some_iff.mp q2).1
  rw [show ["java/lang/IndexOutOfBoundsException", "java/lang/IllegalStateException", "java/util/NoSuchElementException"] = ["java/lang/IndexOutOfBoundsException", "java/lang/IllegalStateException"] ++ ["java/util/NoSuchElementException"] from rfl, List.getElem?_append_left q3]
  exact q2
set_option maxRecDepth 100000 in
theorem mX5_plans {l : Launch} {G : ux_G} {h : ux_H} {a : Int} {A : Ab} {P : Nat} (hC : rC 0 A h) (hI : Inv P A) (hJ : InvF A) (hP : P + 100 ≤ 10000000) (ra : -2147483648 ≤ a ∧ a ≤ 2147483647) : ux_M l G yX5_plans iX5_plans 14 3 [.ref 176, .int (iI a)] h (fun v h' => v = some (.int (nI (pl_of A a.toNat).1)) ∧ k_planDay A a = 0 ∧ x_frK h h') (fun E h' => x_frK h h' ∧ xc (k_planDay A a) ["java/lang/IndexOutOfBoundsException", "java/lang/IllegalStateException"] E) := by
  refine ux_ent (L' := [some (.ref 176), some (.int (iI a))]) kX5_plans rfl rfl rfl rfl ?_
  obtain ⟨i1, i2, i3, i4, i5, i6⟩ := id hI
  refine g_aload_n dX5_plans_0 rfl ?_
  refine g_iload_n dX5_plans_1 rfl ?_
  refine q_V (u' := 2) lX5_318 kX5_planDay (mX5_planDay hC hI hJ hP ra) dX5_plans_2 rfl rfl rfl rfl rfl rfl rfl rfl (fun v h2 hq => ?_) (fun E hx q => g_out rfl (by decide) (by obtain ⟨rfl, q2⟩ := q; exact ⟨x_frK_rf _, q2⟩))
  obtain ⟨rfl, hq2, hF2, hPc, hPa⟩ := hq
  have hC2 := rC_frK hC hF2
  have hq2a : (0 ≤ a ∧ a < 5) ∧ (s_opl A a.toNat 6).length ≤ 4 := by
    unfold k_planDay at hq2; split at hq2
    · cases hq2
    · split at hq2
      · cases hq2
      · omega
  have hta : a.toNat < 5 := by omega
  obtain ⟨hq2b, hq2c⟩ := hq2a
  have ok7 := pl_of_ok (A := A) (d := a.toNat) hI hq2c hP
  dsimp only [Option.toList, List.cons_append, List.nil_append]
  refine g_aload_n dX5_plans_5 rfl ?_
  refine g_getr (q := 179) fX5_32 dX5_plans_6 rfl rfl rfl ?_
  refine g_geti fX5_338 dX5_plans_9 rfl rfl ?_
  refine g_top (y := nI (pl_of A a.toNat).1) hPa.1 ?_
  refine g_ireturn dX5_plans_12 rfl rfl (by decide) ?_
  exact ⟨rfl, hq2, hF2⟩
set_option maxRecDepth 100000 in
theorem mX5_plannedSpread {l : Launch} {G : ux_G} {h : ux_H} {a : Int} {A : Ab} {P : Nat} (hC : rC 0 A h) (hI : Inv P A) (hJ : InvF A) (hP : P + 100 ≤ 10000000) (ra : -2147483648 ≤ a ∧ a ≤ 2147483647) : ux_M l G yX5_plannedSpread iX5_plannedSpread 14 4 [.ref 176, .int (iI a)] h (fun v h' => v = some (.int (iI (pl_of A a.toNat).2.1)) ∧ k_plan A a = 0 ∧ x_frK h h') (fun E h' => x_frK h h' ∧ xc (k_plan A a) ["java/lang/IndexOutOfBoundsException", "java/lang/IllegalStateException", "java/util/NoSuchElementException"] E) := by
  refine ux_ent (L' := [some (.ref 176), some (.int (iI a))]) kX5_plannedSpread rfl rfl rfl rfl ?_
  obtain ⟨i1, i2, i3, i4, i5, i6⟩ := id hI
  refine g_aload_n dX5_plannedSpread_0 rfl ?_
  refine g_iload_n dX5_plannedSpread_1 rfl ?_
  refine q_V (u' := 2) lX5_318 kX5_planDay (mX5_planDay hC hI hJ hP ra) dX5_plannedSpread_2 rfl rfl rfl rfl rfl rfl rfl rfl (fun v h2 hq => ?_) (fun E hx q => g_out rfl (by decide) (by obtain ⟨rfl, q2⟩ := q; exact ⟨x_frK_rf _, xc_pd q2 (fun y => by unfold k_plan; rw [if_pos y])⟩))
  obtain ⟨rfl, hq2, hF2, hPc, hPa⟩ := hq
  have hC2 := rC_frK hC hF2
  have hq2a : (0 ≤ a ∧ a < 5) ∧ (s_opl A a.toNat 6).length ≤ 4 := by
    unfold k_planDay at hq2; split at hq2
    · cases hq2
    · split at hq2
      · cases hq2
      · omega
  have hta : a.toNat < 5 := by omega
  obtain ⟨hq2b, hq2c⟩ := hq2a
  have ok7 := pl_of_ok (A := A) (d := a.toNat) hI hq2c hP
  dsimp only [Option.toList, List.cons_append, List.nil_append]
  refine g_aload_n dX5_plannedSpread_5 rfl ?_
  refine q_V (u' := 3) lX5_311 kX5_needTeachers (mX5_needTeachers hC2 (by omega)) dX5_plannedSpread_6 rfl rfl rfl rfl rfl rfl rfl rfl (fun v h6 hq => ?_) (fun E hx q => g_out rfl (by decide) (by obtain ⟨rfl, rfl, q3⟩ := q; exact ⟨hF2, xc_mk (k := 3) (by unfold k_plan; rw [if_neg (by omega), if_pos (Or.inl q3)]) (by decide) rfl⟩))
  obtain ⟨rfl, eh6, hq6⟩ := hq
  rw [eh6]
  dsimp only [Option.toList, List.cons_append, List.nil_append]
  refine g_aload_n dX5_plannedSpread_9 rfl ?_
  refine q_V (u' := 4) lX5_321 kX5_needPlan (mX5_needPlan hPa (by have := ok7.1; omega)) dX5_plannedSpread_10 rfl rfl rfl rfl rfl rfl rfl rfl (fun v h10 hq => ?_) (fun E hx q => g_out rfl (by decide) (by obtain ⟨rfl, rfl, q3⟩ := q; exact ⟨hF2, xc_mk (k := 3) (by unfold k_plan; rw [if_neg (by omega), if_pos (by first | exact Or.inr q3 | exact Or.inl q3)]) (by decide) rfl⟩))
  obtain ⟨rfl, eh10, hq10⟩ := hq
  rw [eh10]
  dsimp only [Option.toList, List.cons_append, List.nil_append]
  refine g_aload_n dX5_plannedSpread_13 rfl ?_
  refine g_getr (q := 179) fX5_32 dX5_plannedSpread_14 rfl rfl rfl ?_
  refine g_geti fX5_324 dX5_plannedSpread_17 rfl rfl ?_
  refine g_top (y := iI (pl_of A a.toNat).2.1) hPa.2.1 ?_
  refine g_ireturn dX5_plannedSpread_20 rfl rfl (by decide) ?_
  exact ⟨rfl, by unfold k_plan; rw [if_neg (by omega), if_neg (by omega)], hF2⟩
set_option maxRecDepth 100000 in
theorem mX5_planned {l : Launch} {G : ux_G} {h : ux_H} {a b : Int} {A : Ab} {P : Nat} (hC : rC 0 A h) (hI : Inv P A) (hJ : InvF A) (hP : P + 100 ≤ 10000000) (ra : -2147483648 ≤ a ∧ a ≤ 2147483647) (rb : -2147483648 ≤ b ∧ b ≤ 2147483647) : ux_M l G yX5_planned iX5_planned 14 4 [.ref 176, .int (iI a), .int (iI b)] h (fun v h' => v = some (.int (nI ((pl_of A a.toNat).2.2[b.toNat]?.getD 0))) ∧ k_planned A a b = 0 ∧ x_frK h h') (fun E h' => x_frK h h' ∧ xc (k_planned A a b) ["java/lang/IndexOutOfBoundsException", "java/lang/IllegalStateException", "java/util/NoSuchElementException"] E) := by
  refine ux_ent (L' := [some (.ref 176), some (.int (iI a)), some (.int (iI b))]) kX5_planned rfl rfl rfl rfl ?_
  obtain ⟨i1, i2, i3, i4, i5, i6⟩ := id hI
  refine g_aload_n dX5_planned_0 rfl ?_
  refine g_iload_n dX5_planned_1 rfl ?_
  refine q_V (u' := 2) lX5_318 kX5_planDay (mX5_planDay hC hI hJ hP ra) dX5_planned_2 rfl rfl rfl rfl rfl rfl rfl rfl (fun v h2 hq => ?_) (fun E hx q => g_out rfl (by decide) (by obtain ⟨rfl, q2⟩ := q; exact ⟨x_frK_rf _, xc_pd q2 (fun y => by unfold k_planned; rw [if_pos y])⟩))
  obtain ⟨rfl, hq2, hF2, hPc, hPa⟩ := hq
  have hC2 := rC_frK hC hF2
  have hq2a : (0 ≤ a ∧ a < 5) ∧ (s_opl A a.toNat 6).length ≤ 4 := by
    unfold k_planDay at hq2; split at hq2
    · cases hq2
    · split at hq2
      · cases hq2
      · omega
  have hta : a.toNat < 5 := by omega
  obtain ⟨hq2b, hq2c⟩ := hq2a
  have ok7 := pl_of_ok (A := A) (d := a.toNat) hI hq2c hP
  dsimp only [Option.toList, List.cons_append, List.nil_append]
  refine g_aload_n dX5_planned_5 rfl ?_
  refine q_V (u' := 3) lX5_321 kX5_needPlan (mX5_needPlan hPa (by have := ok7.1; omega)) dX5_planned_6 rfl rfl rfl rfl rfl rfl rfl rfl (fun v h6 hq => ?_) (fun E hx q => g_out rfl (by decide) (by obtain ⟨rfl, rfl, q3⟩ := q; exact ⟨hF2, xc_mk (k := 3) (by unfold k_planned; rw [if_neg (by omega), if_pos (by first | exact Or.inr q3 | exact Or.inl q3)]) (by decide) rfl⟩))
  obtain ⟨rfl, eh6, hq6⟩ := hq
  rw [eh6]
  dsimp only [Option.toList, List.cons_append, List.nil_append]
  refine g_iload_n dX5_planned_9 rfl ?_
  refine g_iconst (v := 0) dX5_planned_10 (by decide) ?_
  refine g_aload_n dX5_planned_11 rfl ?_
  refine g_getr (q := 179) fX5_32 dX5_planned_12 rfl rfl rfl ?_
  refine g_geti fX5_327 dX5_planned_15 rfl rfl ?_
  refine g_top (y := nI (s_opl A a.toNat 6).length) hPc.1 ?_
  refine g_iconst (v := 1) dX5_planned_18 (by decide) ?_
  refine g_isub dX5_planned_19 ?_
  refine f1_S (u' := 3) lX5_328 kX5_isWithin (mX5_isWithin) dX5_planned_20 rfl rfl rfl rfl rfl rfl ?_
  have e20 := x_ix (a := b) (n := (s_opl A a.toNat 6).length) rfl rb (by omega)
  refine g_if_ne (tgt := 36) dX5_planned_23 (by decide) (fun c23 => ?_) (fun c23 => ?_)
  · have qr23 := e20.mp (xb_n0 c23)
    refine g_aload_n dX5_planned_36 rfl ?_
    refine g_getr (q := 179) fX5_32 dX5_planned_37 rfl rfl rfl ?_
    refine g_getr (q := 184) fX5_332 dX5_planned_40 rfl rfl rfl ?_
    refine g_iload_n dX5_planned_43 rfl ?_
    have ht44 : b.toNat < (pl_of A a.toNat).2.2.length := by rw [(hPa.2.2 hq6).1]; omega
    refine g_top (iI_get (a := b) (by omega) (by omega)) ?_
    refine f1_S (u' := 3) lX5_173 kX5_at (mX5_at (k := 184) rfl (show b.toNat < 4 by omega)) dX5_planned_44 rfl rfl rfl rfl rfl rfl ?_
    refine g_top (y := nI ((pl_of A a.toNat).2.2[b.toNat]?.getD 0)) (by rw [(hPa.2.2 hq6).2 b.toNat _ (List.getElem?_eq_getElem ht44), List.getElem?_eq_getElem ht44]; rfl) ?_
    refine g_ireturn dX5_planned_47 rfl rfl (by decide) ?_
    exact ⟨rfl, by unfold k_planned; rw [if_neg (by omega), if_neg (by rintro (y | y); exact hq6 y; exact y qr23)], hF2⟩
  · have qr23 := (not_congr e20).mp (xb_0.mp c23)
    refine g_throwN tX5_248_224 dX5_planned_26 dX5_planned_29 dX5_planned_30 dX5_planned_32 dX5_planned_35 rfl rfl (by decide) ?_
    exact ⟨hF2, xc_mk (k := 3) (by unfold k_planned; rw [if_neg (by omega), if_pos (Or.inr qr23)]) (by decide) rfl⟩
def x_frDK (h h' : ux_H) : Prop := ∀ k, 16 ≤ k → (k < 48 ∨ 187 < k ∨ k = 176) → ∀ j, h' k j = h k j
theorem at_k {L : List Nat} {k i : Nat} {R : List Nat} (h : L.drop k = i :: R) : L[k]? = some i ∧ L.drop (k + 1) = R := pl_drop h
/-- what the loop of covers reads -/
def pl_rd (Ls Ts : List Nat) (h : ux_H) : Prop := xgi h 179 9 = nI Ls.length ∧ (∀ (k i : Nat), Ls[k]? = some i → xgi h 180 k = nI i) ∧ (∀ (k i : Nat), Ts[k]? = some i → xgi h 184 k = nI i)
theorem pl_rd_fr {Ls Ts : List Nat} {h h' : ux_H} (q : pl_rd Ls Ts h) (hF : ∀ k, 179 ≤ k → k ≤ 187 → ∀ j, h' k j = h k j) : pl_rd Ls Ts h' := by
  have g : ∀ k j, 179 ≤ k → k ≤ 187 → xgi h' k j = xgi h k j := fun k j a b => by unfold xgi; rw [hF k a b j]
  exact ⟨(g 179 9 (by decide) (by decide)).trans q.1, fun k i hk => (g 180 k (by decide) (by decide)).trans (q.2.1 k i hk), fun k i hk => (g 184 k (by decide) (by decide)).trans (q.2.2 k i hk)⟩
set_option maxRecDepth 100000 in
theorem wX5_carry {l : Launch} {G : ux_G} {X : Ab} {a : Int} {h0 : ux_H} {Ls Ts : List Nat} {Q9 : Option Value → ux_H → Prop} {X9 : String → ux_H → Prop} (hl : Ls.length ≤ 4) (K : ∀ h, rC 0 X h → x_fr h0 h → ux_W l G iX5_carryOut (ux_rm 14 4) (ux_Z G 4 Q9 X9) 72 [some (.ref 176), some (.int (iI a)), some (.int (nI Ls.length))] [] h 4) : ∀ (n : Nat) (k : Nat) (R T : List Nat) (B : Ab) (P : Nat) (h : ux_H), Ls.drop k = R → Ts.drop k = T → k ≤ Ls.length → rC 0 B h → Inv P B → InvF B → pl_rest B R → pl_leg B R T → P + 6 * R.length ≤ 10000000 → pl_bg B R T = X → pl_rd Ls Ts h → x_fr h0 h → Ls.length - k < n → ux_W l G iX5_carryOut (ux_rm 14 4) (ux_Z G 4 Q9 X9) 26 [some (.ref 176), some (.int (iI a)), some (.int (nI k))] [] (h) 4 := by
  intro n
  induction n with
  | zero => intro k R T B P h hR hT hk hC hI hJ hr hL hP hX hd hF hn; exact absurd hn (Nat.not_lt_zero _)
  | succ n ih =>
    intro k R T B P h hR hT hk hC hI hJ hr hL hP hX hd hF hn
    refine g_iload_n dX5_carryOut_26 rfl ?_
    refine g_aload_n dX5_carryOut_27 rfl ?_
    refine g_getr (q := 179) fX5_32 dX5_carryOut_28 rfl rfl rfl ?_
    refine g_geti fX5_327 dX5_carryOut_31 rfl rfl ?_
    refine g_top hd.1 ?_
    refine g_icmp_ge (tgt := 72) dX5_carryOut_34 (by decide) (fun c34 => ?_) (fun c34 => ?_)
    · have e : k = Ls.length := by have := xlt_i c34 (by omega) (by omega); omega
      subst e
      have e2 : R = [] := by rw [← hR]; exact List.drop_eq_nil_of_le (Nat.le_refl _)
      subst e2
      have e3 : T = [] := by cases T with | nil => rfl | cons t T => exact hL.elim
      subst e3
      exact K h (by rw [← hX]; exact hC) hF
    · have hlt : k < Ls.length := xnl_i c34 (by omega) (by omega)
      obtain ⟨i, R2, rfl⟩ : ∃ i R2, R = i :: R2 := by cases R with | nil => rw [List.drop_eq_nil_iff] at hR; omega | cons i R2 => exact ⟨i, R2, rfl⟩
      obtain ⟨t, T2, rfl⟩ : ∃ t T2, T = t :: T2 := by cases T with | nil => exact hL.elim | cons t T2 => exact ⟨t, T2, rfl⟩
      obtain ⟨e1, e2⟩ := at_k hR
      obtain ⟨e3, e4⟩ := at_k hT
      obtain ⟨hil, hi3⟩ := hr.2 i List.mem_cons_self
      rw [List.length_cons] at hP
      refine g_aload_n dX5_carryOut_37 rfl ?_
      refine g_getr (q := 0) fX5_10 dX5_carryOut_38 rfl rfl rfl ?_
      refine g_aload_n dX5_carryOut_41 rfl ?_
      refine g_getr (q := 179) fX5_32 dX5_carryOut_42 rfl rfl rfl ?_
      refine g_getr (q := 180) fX5_335 dX5_carryOut_45 rfl rfl rfl ?_
      refine g_iload_n dX5_carryOut_48 rfl ?_
      refine f1_S (u' := 4) lX5_173 kX5_at (mX5_at (k := 180) rfl (show k < 4 by omega)) dX5_carryOut_49 rfl rfl rfl rfl rfl rfl ?_
      refine g_top (y := nI i) (hd.2.1 k i e1) ?_
      refine g_aload_n dX5_carryOut_52 rfl ?_
      refine g_getr (q := 179) fX5_32 dX5_carryOut_53 rfl rfl rfl ?_
      refine g_getr (q := 184) fX5_332 dX5_carryOut_56 rfl rfl rfl ?_
      refine g_iload_n dX5_carryOut_59 rfl ?_
      refine f1_S (u' := 4) lX5_173 kX5_at (mX5_at (k := 184) rfl (show k < 4 by omega)) dX5_carryOut_60 rfl rfl rfl rfl rfl rfl ?_
      refine g_top (y := nI t) (hd.2.2 k t e3) ?_
      refine q_VN (u' := 4) lX5_266 kX4_beginCover (mX4_beginCover hC hI hil hL.1) dX5_carryOut_63 rfl rfl rfl rfl rfl rfl rfl rfl (fun v h63 hq => ?_)
      obtain ⟨rfl, hC2, hF2⟩ := hq
      dsimp only [Option.toList, List.cons_append, List.nil_append]
      refine s_inc (v := nI (k + 1)) dX5_carryOut_66 rfl nI_s rfl rfl rfl ?_
      dsimp only [List.set]
      refine g_goto (tgt := 26) dX5_carryOut_69 (by decide) ?_
      exact ih (k + 1) R2 T2 (s_begin B i t) (P + 6) h63 e2 e4 (by omega) hC2 (s_begin_I hI hL.1 (by omega)) (s_begin_J hJ hil hi3 hL.2.1) (pl_rest_step hr) hL.2.2 (by omega) hX (pl_rd_fr hd fun c a b j => hF2 c (by omega) j) (x_fr_tr hF hF2) (by omega)
set_option maxRecDepth 100000 in
theorem mX5_carryOut {l : Launch} {G : ux_G} {h : ux_H} {a : Int} {A : Ab} {P : Nat} (hC : rC 0 A h) (hI : Inv P A) (hJ : InvF A) (hP : P + 100 ≤ 10000000)  {Hs : List Ab} (hH : rH Hs h) (ra : -2147483648 ≤ a ∧ a ≤ 2147483647) : ux_M l G yX5_carryOut iX5_carryOut 14 4 [.ref 176, .int (iI a)] h (fun v h' => v = some (.int (nI (s_opl A a.toNat 6).length)) ∧ k_plan A a = 0 ∧ rC 0 (pl_bg A (s_opl A a.toNat 6) (pl_of A a.toNat).2.2) h' ∧ rH ((A :: Hs).take 8) h' ∧ x_frDK h h') (fun E h' => x_frK h h' ∧ xc (k_plan A a) ["java/lang/IndexOutOfBoundsException", "java/lang/IllegalStateException", "java/util/NoSuchElementException"] E) := by
  refine ux_ent (L' := [some (.ref 176), some (.int (iI a)), none]) kX5_carryOut rfl rfl rfl rfl ?_
  obtain ⟨i1, i2, i3, i4, i5, i6⟩ := id hI
  refine g_aload_n dX5_carryOut_0 rfl ?_
  refine g_iload_n dX5_carryOut_1 rfl ?_
  refine q_V (u' := 2) lX5_318 kX5_planDay (mX5_planDay hC hI hJ hP ra) dX5_carryOut_2 rfl rfl rfl rfl rfl rfl rfl rfl (fun v h2 hq => ?_) (fun E hx q => g_out rfl (by decide) (by obtain ⟨rfl, q2⟩ := q; exact ⟨x_frK_rf _, xc_pd q2 (fun y => by unfold k_plan; rw [if_pos y])⟩))
  obtain ⟨rfl, hq2, hF2, hPc, hPa⟩ := hq
  have hC2 := rC_frK hC hF2
  have hq2a : (0 ≤ a ∧ a < 5) ∧ (s_opl A a.toNat 6).length ≤ 4 := by
    unfold k_planDay at hq2; split at hq2
    · cases hq2
    · split at hq2
      · cases hq2
      · omega
  have hta : a.toNat < 5 := by omega
  obtain ⟨hq2b, hq2c⟩ := hq2a
  have ok7 := pl_of_ok (A := A) (d := a.toNat) hI hq2c hP
  dsimp only [Option.toList, List.cons_append, List.nil_append]
  refine g_aload_n dX5_carryOut_5 rfl ?_
  refine q_V (u' := 3) lX5_311 kX5_needTeachers (mX5_needTeachers hC2 (by omega)) dX5_carryOut_6 rfl rfl rfl rfl rfl rfl rfl rfl (fun v h6 hq => ?_) (fun E hx q => g_out rfl (by decide) (by obtain ⟨rfl, rfl, q3⟩ := q; exact ⟨hF2, xc_mk (k := 3) (by unfold k_plan; rw [if_neg (by omega), if_pos (Or.inl q3)]) (by decide) rfl⟩))
  obtain ⟨rfl, eh6, hq6⟩ := hq
  rw [eh6]
  dsimp only [Option.toList, List.cons_append, List.nil_append]
  refine g_aload_n dX5_carryOut_9 rfl ?_
  refine q_V (u' := 4) lX5_321 kX5_needPlan (mX5_needPlan hPa (by have := ok7.1; omega)) dX5_carryOut_10 rfl rfl rfl rfl rfl rfl rfl rfl (fun v h10 hq => ?_) (fun E hx q => g_out rfl (by decide) (by obtain ⟨rfl, rfl, q3⟩ := q; exact ⟨hF2, xc_mk (k := 3) (by unfold k_plan; rw [if_neg (by omega), if_pos (by first | exact Or.inr q3 | exact Or.inl q3)]) (by decide) rfl⟩))
  obtain ⟨rfl, eh10, hq10⟩ := hq
  rw [eh10]
  dsimp only [Option.toList, List.cons_append, List.nil_append]
  refine g_aload_n dX5_carryOut_13 rfl ?_
  refine g_getr (q := 177) fX5_25 dX5_carryOut_14 rfl rfl rfl ?_
  refine g_aload_n dX5_carryOut_17 rfl ?_
  refine g_getr (q := 0) fX5_10 dX5_carryOut_18 rfl rfl rfl ?_
  refine q_VN (u' := 4) lX5_84 kX0_remember (mX0_remember hC2 (by omega) (by omega) x_sc_0 (by decide) (rH_frK hH hF2).choose_spec) dX5_carryOut_21 rfl rfl rfl rfl rfl rfl rfl rfl (fun v h21 hq => ?_)
  obtain ⟨rfl, hH1, hF1⟩ := hq
  have hC1 := rC_frH hC2 hF1
  dsimp only [Option.toList, List.cons_append, List.nil_append]
  refine g_iconst (v := 0) dX5_carryOut_24 (by decide) ?_
  refine s_i (i := 2) dX5_carryOut_25 rfl rfl rfl rfl ?_
  dsimp only [List.set]
  have hL8 := pl_of_leg A a.toNat hq10
  have hd8 : pl_rd (s_opl A a.toNat 6) (pl_of A a.toNat).2.2 h2 := ⟨hPc.1, fun k i hk => (hPc.2 k i hk).1, (hPa.2.2 hq10).2⟩
  refine wX5_carry (h0 := h21) hq2c ?_ 5 0 (s_opl A a.toNat 6) (pl_of A a.toNat).2.2 A P h21 rfl rfl (Nat.zero_le _) hC1 hI hJ pl_rest_opl hL8 (by omega) rfl (pl_rd_fr hd8 fun c a b j => hF1 c (by omega) j) (x_fr_rf _) (by omega)
  intro h3 hC3 hF3
  have e76 : xgi h3 179 9 = nI (s_opl A a.toNat 6).length := (pl_rd_fr (pl_rd_fr hd8 fun c a b j => hF1 c (by omega) j) fun c a b j => hF3 c (by omega) j).1
  refine g_aload_n dX5_carryOut_72 rfl ?_
  refine g_getr (q := 179) fX5_32 dX5_carryOut_73 rfl rfl rfl ?_
  refine g_geti fX5_327 dX5_carryOut_76 rfl rfl ?_
  refine g_top e76 ?_
  refine g_ireturn dX5_carryOut_79 rfl rfl (by decide) ?_
  refine ⟨rfl, by unfold k_plan; rw [if_neg (by omega), if_neg (by omega)], hC3, rH_fr hH1 hF3, fun k hk1 hk2 j => ?_⟩
  exact (hF3 k hk1 j).trans ((hF1 k (by omega) j).trans (hF2 k (by omega) j))
