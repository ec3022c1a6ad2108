/-! Schools stay in order: an absence turns. -/
theorem s_eaw_el {P : Nat} {A : Ab} {i : Nat} (hI : Inv P A) (hJ : InvF A) (hP : P + 86 ≤ 10000000) : (s_eaw A i).2.1 = A.2.1 := (s_eaw_I hI (HO_of hJ) hP).2.2
theorem s_eaw_l {P : Nat} {A : Ab} {i : Nat} (hI : Inv P A) (hJ : InvF A) (hP : P + 86 ≤ 10000000) (hi : i < A.2.1) : aF (s_eaw A i) 13 i = -1 ∧ aF (s_eaw A i) 14 i = -1 ∧ ∀ m, m < A.2.1 → aF (s_eaw A i) 14 m ≠ i ∧ aF (s_eaw A i) 15 m ≠ i := by
  refine ⟨?_, ?_, fun m hm => ?_⟩
  · rw [s_eaw_aF A i 13 i (by decide) (by decide) hi, if_neg (by omega), if_pos ⟨rfl, rfl⟩]
  · rw [s_eaw_aF A i 14 i (by decide) (by decide) hi]
    by_cases q : s_sw A i i = true
    · rw [if_pos ⟨Or.inl rfl, q⟩]
    · rw [if_neg (fun y => q y.2), if_neg (by omega)]
      unfold s_sw at q
      simp only [Bool.and_eq_true, Bool.or_eq_true, decide_eq_true_eq, not_and, not_or] at q
      by_cases z : aF A 14 i = -1
      · exact z
      · exact absurd trivial (q z).1.1
  · rw [s_eaw_aF A i 14 m (by decide) (by decide) hm, s_eaw_aF A i 15 m (by decide) (by decide) hm]
    by_cases q : s_sw A m i = true
    · rw [if_pos ⟨Or.inl rfl, q⟩, if_pos ⟨Or.inr rfl, q⟩]; omega
    · rw [if_neg (fun y => q y.2), if_neg (by omega), if_neg (fun y => q y.2), if_neg (by omega)]
      have j3 := hJ.2.2.1 m hm
      by_cases z : aF A 14 m = -1
      · rw [z, j3.mp z]; omega
      · unfold s_sw at q
        simp only [Bool.and_eq_true, Bool.or_eq_true, decide_eq_true_eq, not_and, not_or] at q
        exact ⟨(q z).1.2, (q z).2⟩
/-- what the ends with i keep: absences, slots, classes, subjects, teachers, rooms -/
theorem s_eaw_k {A : Ab} {i f m : Nat} (hf : f < 13 ∧ f ≠ 4 ∧ f ≠ 0) : aF (s_eaw A i) f m = aF A f m := s_eaw_5 A i m f hf
theorem s_ei_ok {P : Nat} {A : Ab} {x : Int} (hI : Inv P A) (hJ : InvF A) (hP : P + 86 ≤ 10000000) : Inv (P + 86) (s_ei A x) ∧ InvF (s_ei A x) ∧ (s_ei A x).1 = A.1 ∧ (s_ei A x).2.1 = A.2.1 ∧ (∀ f m, f < 13 ∧ f ≠ 4 ∧ f ≠ 0 → aF (s_ei A x) f m = aF A f m) ∧
    (∀ f m, m < A.2.1 → f = 13 ∨ f = 14 ∨ f = 15 → aF (s_ei A x) f m = aF A f m ∨ aF (s_ei A x) f m = -1) ∧ (∀ i : Nat, x = i → i < A.2.1 → aF (s_ei A x) 13 i = -1 ∧ aF (s_ei A x) 14 i = -1 ∧ ∀ m, m < A.2.1 → aF (s_ei A x) 14 m ≠ i ∧ aF (s_ei A x) 15 m ≠ i) := by
  unfold s_ei
  split
  · next q => exact ⟨Inv_mono hI (by omega) hP, hJ, rfl, rfl, fun _ _ _ => rfl, fun _ _ _ _ => Or.inl rfl, fun i hx _ => by omega⟩
  · next q =>
    obtain ⟨a, b, c⟩ := s_eaw_I (i := x.toNat) hI (HO_of hJ) hP
    refine ⟨a, InvF_eaw hI hJ hP, b, c, fun f m hf => s_eaw_k hf, fun f m hm hf => ?_, fun i hx hi => ?_⟩
    · rw [s_eaw_aF A _ f m (by omega) (by omega) hm]
      split
      · exact Or.inr rfl
      · split
        · exact Or.inr rfl
        · exact Or.inl rfl
    · have e : x.toNat = i := by omega
      rw [e]
      exact s_eaw_l hI hJ hP hi
/-- a teacher's lesson in a slot, where there is none or its lesson -/
theorem s_own_one {A : Ab} (hJ : InvF A) {s v : Int} {l : Nat} (hl : l < A.2.1) (h8 : aF A 8 l = s) (hv : aF A 11 l = v) : s_find A 11 s v = l :=
  s_find_one hl h8 hv fun m hm h1 h2 => Decidable.byContradiction fun hne => (hJ.1 m l hm hl hne (by omega)).2.1 (by omega)
theorem s_cov_one {A : Ab} (hJ : InvF A) {s v : Int} (hv0 : v ≠ -1) {l : Nat} (hl : l < A.2.1) (h8 : aF A 8 l = s) (hv : aF A 13 l = v) : s_find A 13 s v = l :=
  s_find_one hl h8 hv fun m hm h1 h2 => Decidable.byContradiction fun hne => (hJ.2.1 l hl (by omega)).2.2.2.2.2 m hm hne (by omega) (by omega)
theorem turn_ok {P : Nat} {A : Ab} {t s : Nat} (hI : Inv P A) (hJ : InvF A) (hP : P + 172 ≤ 10000000) (ht : t < A.1) (hs : s < 30) : Inv (P + 172) (s_turn A t s) ∧ InvF (s_turn A t s) ∧ (s_turn A t s).1 = A.1 ∧ (s_turn A t s).2.1 = A.2.1 := by
  obtain ⟨a1, a2, a3, a4, a5, a6, a7⟩ := s_ei_ok (x := s_find A 11 s t) hI hJ (by omega)
  obtain ⟨B, hB⟩ : ∃ B, B = s_t1 A t s := ⟨_, rfl⟩
  have hB' : s_ei A (s_find A 11 s t) = B := hB.symm
  rw [hB'] at a1 a2 a3 a4 a5 a6 a7
  obtain ⟨b1, b2, b3, b4, b5, b6, b7⟩ := s_ei_ok (x := s_find B 13 s t) a1 a2 (by omega)
  obtain ⟨D, hD⟩ : ∃ D, D = s_t2 A t s := ⟨_, rfl⟩
  have hD' : s_ei B (s_find B 13 s t) = D := by rw [hD, hB]; rfl
  rw [hD'] at b1 b2 b3 b4 b5 b6 b7
  have hT : s_turn A t s = aU D 5 t (s_flip (aF D 5 t) s) := by rw [hD]; rfl
  rw [hT]
  obtain ⟨i1, i2, i3, i4, i5, i6⟩ := id b1
  have fr := s_flip_r (x := aF D 5 t) (s := s) (by have := i4 t (by omega); omega) hs
  refine ⟨⟨i1, i2, i3, fun k hk => ?_, i5, i6⟩, ?_, b3.trans a3, b4.trans a4⟩
  · have q := i4 k hk
    rw [aF_ne D (by omega), aF_ne D (by omega), aF_ne D (by omega), aF_ne D (by omega), aF_aU]
    refine ⟨q.1, q.2.1, q.2.2.1, q.2.2.2.1, q.2.2.2.2.1, q.2.2.2.2.2.1, q.2.2.2.2.2.2.1, q.2.2.2.2.2.2.2.1, ?_, ?_⟩ <;> split <;> omega
  · obtain ⟨j1, j2, j3, j4, j5⟩ := id b2
    have en : ∀ f j, f ≠ 5 → aF (aU D 5 t (s_flip (aF D 5 t) s)) f j = aF D f j := fun f j hf => aF_ne D (by omega)
    have ew : ∀ (k : Nat) (z : Int), 0 ≤ z → z < 30 → ¬ (k = t ∧ z = s) → s_away (aU D 5 t (s_flip (aF D 5 t) s)) k z = s_away D k z := by
      intro k z h0 h1 hn
      unfold s_away
      rw [aF_aU]
      by_cases q : k = t
      · subst q
        rw [if_pos ⟨rfl, rfl⟩]
        obtain ⟨n, rfl⟩ : ∃ n : Nat, z = n := ⟨z.toNat, by omega⟩
        rw [s_bit_flip hs (by omega), if_neg (by omega)]
      · rw [if_neg (by omega)]
    -- the teacher's own lesson in the slot
    have own : ∀ j, j < D.2.1 → aF D 11 j = t → aF D 8 j = s → aF D 13 j = -1 ∧ aF D 14 j = -1 ∧ ∀ m, m < D.2.1 → aF D 14 m ≠ j ∧ aF D 15 m ≠ j := by
      intro j hj h11 h8
      rw [b5 11 j (by omega)] at h11
      rw [b5 8 j (by omega)] at h8
      have h11' := h11
      have h8' := h8
      rw [a5 11 j (by omega)] at h11'
      rw [a5 8 j (by omega)] at h8'
      obtain ⟨c1, c2, c3⟩ := a7 j (s_own_one hJ (by omega) h8' h11') (by omega)
      refine ⟨?_, ?_, fun m hm => ?_⟩
      · rcases b6 13 j (by omega) (by omega) with q | q
        · rw [q]; exact c1
        · exact q
      · rcases b6 14 j (by omega) (by omega) with q | q
        · rw [q]; exact c2
        · exact q
      · have c4 := c3 m (by omega)
        constructor
        · rcases b6 14 m (by omega) (by omega) with q | q
          · rw [q]; exact c4.1
          · rw [q]; omega
        · rcases b6 15 m (by omega) (by omega) with q | q
          · rw [q]; exact c4.2
          · rw [q]; omega
    have cov : ∀ j, j < D.2.1 → aF D 8 j = s → aF D 13 j ≠ t := by
      intro j hj h8 h13
      have h8' := h8
      rw [b5 8 j (by omega)] at h8'
      rcases b6 13 j (by omega) (by omega) with q | q
      · rw [q] at h13
        have c := (b7 j (s_cov_one a2 (by omega) (by omega) h8' h13) (by omega)).1
        rw [q, h13] at c
        omega
      · rw [q] at h13; omega
    have eg : ∀ j, j < D.2.1 → ¬ (aF D 11 j = t ∧ aF D 8 j = s) → s_gone (aU D 5 t (s_flip (aF D 5 t) s)) j = s_gone D j := by
      intro j hj hn
      have q := i6 j hj
      unfold s_gone s_own
      rw [en 11 j (by decide), en 8 j (by decide)]
      exact ew _ _ (by omega) (by omega) (by omega)
    have ea : ∀ j, j < D.2.1 → ¬ (aF D 11 j = t ∧ aF D 8 j = s) → s_act (aU D 5 t (s_flip (aF D 5 t) s)) j = s_act D j := by
      intro j hj hn
      unfold s_act
      rw [eg j hj hn, en 13 j (by decide), en 11 j (by decide)]
    refine ⟨fun a b ha hb hab h8 => ?_, fun a ha h13 => ?_, fun a ha => ?_, fun a ha h14 => ?_, fun a ha => ?_⟩
    · rw [en 8 _ (by decide), en 8 _ (by decide)] at h8
      rw [en 9 _ (by decide), en 9 _ (by decide), en 11 _ (by decide), en 11 _ (by decide), en 12 _ (by decide), en 12 _ (by decide)]
      exact j1 a b ha hb hab h8
    · have ha : a < D.2.1 := ha
      rw [en 13 a (by decide)] at h13
      obtain ⟨k1, k2, k3, k4, k5, k6⟩ := j2 a ha h13
      have q := i6 a ha
      have n1 : ¬ (aF D 11 a = t ∧ aF D 8 a = s) := fun y => h13 (own a ha y.1 y.2).1
      rw [eg a ha n1, en 13 a (by decide), en 11 a (by decide), en 8 a (by decide), en 14 a (by decide), ew _ _ (by omega) (by omega) (fun y => cov a ha y.2 (by omega))]
      refine ⟨k1, k2, k3, k4, fun j hj h8 => ?_, fun j hj hn h8 => ?_⟩
      · rw [en 8 j (by decide)] at h8; rw [en 11 j (by decide)]; exact k5 j hj h8
      · rw [en 8 j (by decide)] at h8; rw [en 13 j (by decide)]; exact k6 j hj hn h8
    · rw [en 14 a (by decide), en 15 a (by decide)]
      exact j3 a ha
    · have ha : a < D.2.1 := ha
      rw [en 14 a (by decide)] at h14
      obtain ⟨k1, k2, k3, k4, k5, k6⟩ := j4 a ha h14
      have q := i6 a ha
      have n1 : ¬ (aF D 11 a = t ∧ aF D 8 a = s) := fun y => h14 (own a ha y.1 y.2).2.1
      have h15 : aF D 15 a ≠ -1 := fun y => h14 ((j3 a ha).mpr y)
      rw [eg a ha n1, en 14 a (by decide), en 15 a (by decide), en 8 _ (by decide), en 8 a (by decide), en 8 _ (by decide),
        ea _ (by omega) (fun y => (own _ (by omega) y.1 y.2).2.2 a ha |>.1 (by omega)), ea _ (by omega) (fun y => (own _ (by omega) y.1 y.2).2.2 a ha |>.2 (by omega))]
      exact ⟨k1, k2, k3, k4, k5, k6⟩
    · have ha : a < D.2.1 := ha
      rw [s_load_of (B := aU D 5 t (s_flip (aF D 5 t) s)) (A := D) rfl (fun c => en 6 c (by decide)) (fun m _ => ⟨en 9 m (by decide), en 14 m (by decide), en 15 m (by decide)⟩) ha, en 12 a (by decide), en 7 _ (by decide)]
      exact j5 a ha
