/-! Schools stay in order: ends and splittings. -/
theorem InvF_eq {A B : Ab} (h2 : B.2.1 = A.2.1) (hf : ∀ f j, 5 ≤ f → aF B f j = aF A f j) (hJ : InvF A) : InvF B := by
  obtain ⟨j1, j2, j3, j4, j5⟩ := hJ
  have eg : ∀ j, s_gone B j = s_gone A j := fun j => s_gone_of (fun t => hf 5 t (by decide)) (hf 8 j (by decide)) (hf 11 j (by decide))
  have ea : ∀ j, s_act B j = s_act A j := fun j => s_act_of (fun t => hf 5 t (by decide)) (hf 8 j (by decide)) (hf 11 j (by decide)) (hf 13 j (by decide))
  have ew : ∀ k s, s_away B k s = s_away A k s := fun k s => by unfold s_away; rw [hf 5 k (by decide)]
  refine ⟨fun a b ha hb hab h8 => ?_, fun a ha h13 => ?_, fun a ha => ?_, fun a ha h14 => ?_, fun a ha => ?_⟩
  · rw [h2] at ha hb
    rw [hf 8 _ (by decide), hf 8 _ (by decide)] at h8
    rw [hf 9 _ (by decide), hf 9 _ (by decide), hf 11 _ (by decide), hf 11 _ (by decide), hf 12 _ (by decide), hf 12 _ (by decide)]
    exact j1 a b ha hb hab h8
  · rw [h2] at ha
    rw [hf 13 _ (by decide)] at h13
    obtain ⟨k1, k2, k3, k4, k5, k6⟩ := j2 a ha h13
    rw [eg, hf 13 a (by decide), hf 11 a (by decide), hf 8 a (by decide), hf 14 a (by decide), ew, h2]
    refine ⟨k1, k2, k3, k4, fun j hj h8 => ?_, fun j hj hn h8 => ?_⟩
    · rw [hf 8 j (by decide)] at h8; rw [hf 11 j (by decide)]; exact k5 j hj h8
    · rw [hf 8 j (by decide)] at h8; rw [hf 13 j (by decide)]; exact k6 j hj hn h8
  · rw [h2] at ha
    rw [hf 14 a (by decide), hf 15 a (by decide)]
    exact j3 a ha
  · rw [h2] at ha
    rw [hf 14 a (by decide)] at h14
    rw [eg, hf 14 a (by decide), hf 15 a (by decide), hf 8 _ (by decide), hf 8 a (by decide), hf 8 _ (by decide), ea, ea]
    exact j4 a ha h14
  · rw [h2] at ha
    rw [s_load_of h2 (fun c => hf 6 c (by decide)) (fun m _ => ⟨hf 9 m (by decide), hf 14 m (by decide), hf 15 m (by decide)⟩) ha, hf 12 a (by decide), hf 7 _ (by decide)]
    exact j5 a ha
theorem s_sz_r {P : Nat} {A : Ab} (hI : Inv P A) {i : Nat} (hi : i < A.2.1) : 1 ≤ s_sz A i ∧ s_sz A i ≤ 30 := by
  have q := hI.2.2.2.2.2 i hi
  have r := hI.2.2.2.2.1 (aF A 9 i).toNat (by omega)
  exact ⟨r.1, r.2.1⟩
/-- fewer guests where fewer lessons are split -/
theorem s_gst_le {P : Nat} {A B : Ab} (hI : Inv P A) (h6 : ∀ c, aF B 6 c = aF A 6 c) (k : Nat) : ∀ n, n ≤ A.2.1 → (∀ m, m < n → aF B 9 m = aF A 9 m ∧ (aF B 14 m = aF A 14 m ∨ aF B 14 m = -1) ∧ (aF B 15 m = aF A 15 m ∨ aF B 15 m = -1)) → s_gst B k n ≤ s_gst A k n := by
  intro n
  induction n with
  | zero => intro _ _; exact Int.le_refl _
  | succ n ih =>
    intro hn h
    have a := ih (by omega) (fun m hm => h m (by omega))
    obtain ⟨b1, b2, b3⟩ := h n (by omega)
    have z := s_sz_r hI (i := n) (by omega)
    have e : s_sz B n = s_sz A n := by unfold s_sz; rw [b1, h6]
    unfold s_gst
    rw [e]
    have c1 : (if aF B 14 n = k then (s_sz A n + 1) / 2 else 0) ≤ (if aF A 14 n = k then (s_sz A n + 1) / 2 else 0) := by
      rcases b2 with q | q
      · rw [q]; exact Int.le_refl _
      · rw [if_neg (by omega)]; split <;> omega
    have c2 : (if aF B 15 n = k then s_sz A n / 2 else 0) ≤ (if aF A 15 n = k then s_sz A n / 2 else 0) := by
      rcases b3 with q | q
      · rw [q]; exact Int.le_refl _
      · rw [if_neg (by omega)]; split <;> omega
    omega
theorem InvF_ends {P : Nat} {A : Ab} (hI : Inv P A) (hJ : InvF A) (i : Nat) : InvF (s_ends A i) := by
  obtain ⟨j1, j2, j3, j4, j5⟩ := hJ
  have e := s_ends_aF A i
  have en : ∀ f j, f ≠ 4 → f ≠ 14 → f ≠ 15 → aF (s_ends A i) f j = aF A f j := fun f j h4 h14 h15 => by rw [e f j h4, if_neg (by omega)]
  have e14 : ∀ j, aF (s_ends A i) 14 j = if j = i then -1 else aF A 14 j := fun j => by rw [e 14 j (by decide)]; by_cases q : j = i <;> simp [q]
  have e15 : ∀ j, aF (s_ends A i) 15 j = if j = i then -1 else aF A 15 j := fun j => by rw [e 15 j (by decide)]; by_cases q : j = i <;> simp [q]
  have eg : ∀ j, s_gone (s_ends A i) j = s_gone A j := fun j => s_gone_of (fun t => en 5 t (by decide) (by decide) (by decide)) (en 8 j (by decide) (by decide) (by decide)) (en 11 j (by decide) (by decide) (by decide))
  have ew : ∀ k s, s_away (s_ends A i) k s = s_away A k s := fun k s => by unfold s_away; rw [en 5 k (by decide) (by decide) (by decide)]
  have e8 : ∀ j, aF (s_ends A i) 8 j = aF A 8 j := fun j => en 8 j (by decide) (by decide) (by decide)
  have e9 : ∀ j, aF (s_ends A i) 9 j = aF A 9 j := fun j => en 9 j (by decide) (by decide) (by decide)
  have e11 : ∀ j, aF (s_ends A i) 11 j = aF A 11 j := fun j => en 11 j (by decide) (by decide) (by decide)
  have e12 : ∀ j, aF (s_ends A i) 12 j = aF A 12 j := fun j => en 12 j (by decide) (by decide) (by decide)
  have e13 : ∀ j, aF (s_ends A i) 13 j = aF A 13 j := fun j => en 13 j (by decide) (by decide) (by decide)
  have el : (s_ends A i).2.1 = A.2.1 := rfl
  refine ⟨fun a b ha hb hab h8 => ?_, fun a ha h13 => ?_, fun a ha => ?_, fun a ha h14 => ?_, fun a ha => ?_⟩
  · rw [e8, e8] at h8
    rw [e9, e9, e11, e11, e12, e12]
    exact j1 a b ha hb hab h8
  · rw [e13] at h13
    obtain ⟨k1, k2, k3, k4, k5, k6⟩ := j2 a ha h13
    rw [eg, e13, e11, e8, e14, ew]
    refine ⟨k1, k2, k3, by split <;> first | rfl | exact k4, fun j hj h8 => ?_, fun j hj hn h8 => ?_⟩
    · rw [e8] at h8; rw [e11]; exact k5 j hj h8
    · rw [e8] at h8; rw [e13]; exact k6 j hj hn h8
  · rw [e14, e15]
    split
    · exact ⟨fun _ => rfl, fun _ => rfl⟩
    · exact j3 a ha
  · rw [e14] at h14
    by_cases q : a = i
    · rw [if_pos q] at h14; exact absurd rfl h14
    · rw [if_neg q] at h14
      rw [eg, e14, e15, if_neg q, if_neg q, e8, e8, e8, s_ends_act, s_ends_act]
      exact j4 a ha h14
  · have l1 := s_gst_le (B := s_ends A i) hI (fun c => en 6 c (by decide) (by decide) (by decide)) a A.2.1 (Nat.le_refl _) (fun m _ => ⟨e9 m, by rw [e14]; split; exact Or.inr rfl; exact Or.inl rfl, by rw [e15]; split; exact Or.inr rfl; exact Or.inl rfl⟩)
    have l2 := j5 a ha
    have l3 : s_sz (s_ends A i) a = s_sz A a := by unfold s_sz; rw [e9, en 6 _ (by decide) (by decide) (by decide)]
    rw [e12, en 7 _ (by decide) (by decide) (by decide)]
    unfold s_load at l2 ⊢
    rw [el, l3]
    omega
theorem InvF_esw {P : Nat} {A : Ab} (sw : Ab → Nat → Bool) (hI : Inv P A) (hJ : InvF A) : ∀ n, P + 2 * n ≤ 10000000 → InvF (s_esw sw A n).1 := by
  intro n
  induction n with
  | zero => intro _; exact hJ
  | succ n ih =>
    intro hP
    have a := ih (by omega)
    have b := (s_esw_I (sw := sw) hI (HO_of hJ) n (by omega)).1
    by_cases q : sw (s_esw sw A n).1 n = true
    · rw [s_esw_t q]; exact InvF_ends b a n
    · rw [s_esw_f q]; exact a
theorem InvF_0 {A : Ab} (hJ : InvF A) (j : Nat) (v : Int) : InvF (aU A 0 j v) := InvF_eq (A := A) rfl (fun f k hf => aF_ne A (by omega)) hJ
theorem InvF_endc {P : Nat} {A : Ab} {i : Nat} (hI : Inv P A) (hJ : InvF A) (hn : ∀ m, m < A.2.1 → aF A 14 m ≠ i ∧ aF A 15 m ≠ i) : InvF (s_endc A i) := by
  unfold s_endc
  split
  · exact hJ
  · obtain ⟨j1, j2, j3, j4, j5⟩ := hJ
    obtain ⟨B, hB⟩ : ∃ B, B = aU (s_add A (aF A 13 i).toNat (-(s_worth A i (aF A 13 i).toNat))) 13 i (-1) := ⟨_, rfl⟩
    rw [← hB]
    have en : ∀ f j, f ≠ 4 → ¬ (f = 13 ∧ j = i) → aF B f j = aF A f j := fun f j h4 h13 => by
      rw [hB, aF_ne _ h13]; unfold s_add; rw [aF_ne _ (by omega)]
    have e13 : ∀ j, aF B 13 j = if j = i then -1 else aF A 13 j := fun j => by
      by_cases q : j = i
      · rw [if_pos q, hB, q, aF_eq]
      · rw [if_neg q, en 13 j (by decide) (by omega)]
    have el : B.2.1 = A.2.1 := by rw [hB]; rfl
    have e5 : ∀ j, aF B 5 j = aF A 5 j := fun j => en 5 j (by decide) (by omega)
    have e8 : ∀ j, aF B 8 j = aF A 8 j := fun j => en 8 j (by decide) (by omega)
    have e9 : ∀ j, aF B 9 j = aF A 9 j := fun j => en 9 j (by decide) (by omega)
    have e11 : ∀ j, aF B 11 j = aF A 11 j := fun j => en 11 j (by decide) (by omega)
    have e12 : ∀ j, aF B 12 j = aF A 12 j := fun j => en 12 j (by decide) (by omega)
    have e14 : ∀ j, aF B 14 j = aF A 14 j := fun j => en 14 j (by decide) (by omega)
    have e15 : ∀ j, aF B 15 j = aF A 15 j := fun j => en 15 j (by decide) (by omega)
    have eg : ∀ j, s_gone B j = s_gone A j := fun j => s_gone_of e5 (e8 j) (e11 j)
    have ew : ∀ k s, s_away B k s = s_away A k s := fun k s => by unfold s_away; rw [e5]
    have ea : ∀ j, j ≠ i → s_act B j = s_act A j := fun j hj => s_act_of e5 (e8 j) (e11 j) (by rw [e13, if_neg hj])
    refine ⟨fun a b ha hb hab h8 => ?_, fun a ha h13 => ?_, fun a ha => ?_, fun a ha h14 => ?_, fun a ha => ?_⟩
    · rw [el] at ha hb
      rw [e8, e8] at h8
      rw [e9, e9, e11, e11, e12, e12]
      exact j1 a b ha hb hab h8
    · rw [el] at ha
      rw [e13] at h13
      by_cases q : a = i
      · rw [if_pos q] at h13; exact absurd rfl h13
      · rw [if_neg q] at h13
        obtain ⟨k1, k2, k3, k4, k5, k6⟩ := j2 a ha h13
        rw [eg, e13, if_neg q, e11, e8, e14, ew, el]
        refine ⟨k1, k2, k3, k4, fun j hj h8 => ?_, fun j hj hne h8 => ?_⟩
        · rw [e8] at h8; rw [e11]; exact k5 j hj h8
        · rw [e8] at h8; rw [e13]
          split
          · exact fun y => h13 y.symm
          · exact k6 j hj hne h8
    · rw [el] at ha
      rw [e14, e15]
      exact j3 a ha
    · rw [el] at ha
      rw [e14] at h14
      obtain ⟨k1, k2, k3, k4, k5, k6⟩ := j4 a ha h14
      have n1 := hn a ha
      have h15 : aF A 15 a ≠ -1 := fun y => h14 ((j3 a ha).mpr y)
      rw [eg, e14, e15, e8, e8, e8]
      have r := hI.2.2.2.2.2 a ha
      have q1 : (aF A 14 a).toNat ≠ i := by omega
      have q2 : (aF A 15 a).toNat ≠ i := by omega
      rw [ea _ q1, ea _ q2]
      exact ⟨k1, k2, k3, k4, k5, k6⟩
    · rw [el] at ha
      rw [s_load_of el (fun c => en 6 c (by decide) (by omega)) (fun m _ => ⟨e9 m, e14 m, e15 m⟩) ha, e12, en 7 _ (by decide) (by omega)]
      exact j5 a ha
theorem InvF_e1 {P : Nat} {A : Ab} {i : Nat} (hI : Inv P A) (hJ : InvF A) (hP : P + 80 ≤ 10000000) : InvF (s_e1 A i) :=
  InvF_0 (InvF_esw (s_swi i) hI hJ A.2.1 (by have := hI.2.1; omega)) _ _
/-- behind the ends nothing is split with i -/
theorem s_e1_no {A : Ab} {i : Nat} (hJ : InvF A) : ∀ m, m < A.2.1 → aF (s_e1 A i) 14 m ≠ i ∧ aF (s_e1 A i) 15 m ≠ i := by
  intro m hm
  have e : ∀ f, f = 14 ∨ f = 15 → aF (s_e1 A i) f m = if s_sw A m i = true then -1 else aF A f m := fun f hf => by
    unfold s_e1
    rw [aF_ne _ (by omega), s_esw_aF (s_swi_l i) A A.2.1 f m (by omega)]
    show (if (f = 14 ∨ f = 15) ∧ m < A.2.1 ∧ s_sw A m i = true then -1 else aF A f m) = _
    by_cases q : s_sw A m i = true
    · rw [if_pos ⟨hf, hm, q⟩, if_pos q]
    · rw [if_neg (fun y => q y.2.2), if_neg q]
  rw [e 14 (Or.inl rfl), e 15 (Or.inr rfl)]
  by_cases q : s_sw A m i = true
  · rw [if_pos q, if_pos q]; omega
  · rw [if_neg q, if_neg q]
    have j3 := hJ.2.2.1 m hm
    by_cases z : aF A 14 m = -1
    · rw [z, j3.mp z]; omega
    · unfold s_sw at q
      simp only [Bool.and_eq_true, Bool.or_eq_true, decide_eq_true_eq, not_and, not_or] at q
      exact ⟨(q z).1.2, (q z).2⟩
theorem InvF_eaw {P : Nat} {A : Ab} {i : Nat} (hI : Inv P A) (hJ : InvF A) (hP : P + 86 ≤ 10000000) : InvF (s_eaw A i) := by
  obtain ⟨a, b, c⟩ := s_e1_I (i := i) hI (HO_of hJ) (by omega)
  exact InvF_0 (InvF_endc a (InvF_e1 hI hJ (by omega)) (fun m hm => s_e1_no hJ m (by omega))) _ _
theorem InvF_unc {P : Nat} {A : Ab} {i : Nat} (hI : Inv P A) (hJ : InvF A) (hP : P + 86 ≤ 10000000) : InvF (s_unc A i) := by
  obtain ⟨a, b, c⟩ := s_e1_I (i := i) hI (HO_of hJ) (by omega)
  exact InvF_endc a (InvF_e1 hI hJ (by omega)) (fun m hm => s_e1_no hJ m (by omega))

