/-! Schools stay in order: limits, sizes, capacities, rooms, splittings, removals. -/
theorem InvF_67 {A B : Ab} (h2 : B.2.1 = A.2.1) (hf : ∀ f j, f = 5 ∨ (8 ≤ f ∧ f ≠ 12) → aF B f j = aF A f j) (h12 : ∀ i j, i < A.2.1 → j < A.2.1 → i ≠ j → aF A 8 i = aF A 8 j → aF B 12 i ≠ aF B 12 j) (hl : ∀ i, i < A.2.1 → s_load B i ≤ aF B 7 (aF B 12 i).toNat) (hJ : InvF A) : InvF B := by
  obtain ⟨j1, j2, j3, j4, j5⟩ := hJ
  have eg : ∀ j, s_gone B j = s_gone A j := fun j => s_gone_of (fun t => hf 5 t (by decide)) (hf 8 j (by decide)) (hf 11 j (by decide))
  have ea : ∀ j, s_act B j = s_act A j := fun j => s_act_of (fun t => hf 5 t (by decide)) (hf 8 j (by decide)) (hf 11 j (by decide)) (hf 13 j (by decide))
  have ew : ∀ k s, s_away B k s = s_away A k s := fun k s => by unfold s_away; rw [hf 5 k (by decide)]
  refine ⟨fun a b ha hb hab h8 => ?_, fun a ha h13 => ?_, fun a ha => ?_, fun a ha h14 => ?_, fun a ha => ?_⟩
  · rw [h2] at ha hb
    rw [hf 8 _ (by decide), hf 8 _ (by decide)] at h8
    rw [hf 9 _ (by decide), hf 9 _ (by decide), hf 11 _ (by decide), hf 11 _ (by decide)]
    exact ⟨(j1 a b ha hb hab h8).1, (j1 a b ha hb hab h8).2.1, h12 a b ha hb hab h8⟩
  · rw [h2] at ha
    rw [hf 13 _ (by decide)] at h13
    obtain ⟨k1, k2, k3, k4, k5, k6⟩ := j2 a ha h13
    rw [eg, hf 13 a (by decide), hf 11 a (by decide), hf 8 a (by decide), hf 14 a (by decide), ew, h2]
    refine ⟨k1, k2, k3, k4, fun j hj h8 => ?_, fun j hj hn h8 => ?_⟩
    · rw [hf 8 j (by decide)] at h8; rw [hf 11 j (by decide)]; exact k5 j hj h8
    · rw [hf 8 j (by decide)] at h8; rw [hf 13 j (by decide)]; exact k6 j hj hn h8
  · rw [h2] at ha
    rw [hf 14 a (by decide), hf 15 a (by decide)]
    exact j3 a ha
  · rw [h2] at ha
    rw [hf 14 a (by decide)] at h14
    rw [eg, hf 14 a (by decide), hf 15 a (by decide), hf 8 _ (by decide), hf 8 a (by decide), hf 8 _ (by decide), ea, ea]
    exact j4 a ha h14
  · rw [h2] at ha
    exact hl a ha
theorem limit_ok {P : Nat} {A : Ab} {t : Nat} {b : Int} (hI : Inv P A) (hJ : InvF A) (hb : 0 ≤ b ∧ b ≤ 3) : Inv P (aU A 3 t b) ∧ InvF (aU A 3 t b) := by
  refine ⟨?_, InvF_eq (A := A) rfl (fun f j hf => aF_ne A (by omega)) hJ⟩
  obtain ⟨i1, i2, i3, i4, i5, i6⟩ := hI
  have n : ∀ a b2, a ≠ 3 → aF (aU A 3 t b) a b2 = aF A a b2 := fun a b2 ha => aF_ne A (by omega)
  refine ⟨i1, i2, i3, fun k hk => ?_, fun c hc => ?_, fun i hi => ?_⟩
  · rw [n 1 k (by decide), n 2 k (by decide), n 4 k (by decide), n 5 k (by decide)]
    have q := i4 k hk
    have e : aF (aU A 3 t b) 3 k = if k = t then b else aF A 3 k := by rw [aF_aU]; by_cases y : k = t <;> simp [y]
    rw [e]
    split <;> omega
  · rw [n 6 c (by decide), n 7 c (by decide)]; exact i5 c hc
  · rw [n 8 i (by decide), n 9 i (by decide), n 10 i (by decide), n 11 i (by decide), n 12 i (by decide), n 13 i (by decide), n 14 i (by decide), n 15 i (by decide)]; exact i6 i hi
theorem Inv_67 {P : Nat} {A : Ab} {f c : Nat} {z : Int} (hI : Inv P A) (hf : (f = 6 ∧ 1 ≤ z ∧ z ≤ 30) ∨ (f = 7 ∧ 10 ≤ z ∧ z ≤ 60)) : Inv P (aU A f c z) := by
  obtain ⟨i1, i2, i3, i4, i5, i6⟩ := hI
  have n : ∀ a b2, a ≠ f → aF (aU A f c z) a b2 = aF A a b2 := fun a b2 ha => aF_ne A (by omega)
  refine ⟨i1, i2, i3, fun k hk => ?_, fun k hk => ?_, fun i hi => ?_⟩
  · rw [n 1 k (by omega), n 2 k (by omega), n 3 k (by omega), n 4 k (by omega), n 5 k (by omega)]; exact i4 k hk
  · have q := i5 k hk
    rw [aF_aU, aF_aU]
    split <;> split <;> omega
  · rw [n 8 i (by omega), n 9 i (by omega), n 10 i (by omega), n 11 i (by omega), n 12 i (by omega), n 13 i (by omega), n 14 i (by omega), n 15 i (by omega)]; exact i6 i hi
/-- guests of a school where the size of a class without split lessons has changed -/
theorem gst_size {A : Ab} {c : Nat} {z : Int} (i : Nat) : ∀ n, (∀ m, m < n → (aF A 9 m).toNat = c → aF A 14 m = -1 ∧ aF A 15 m = -1) → s_gst (aU A 6 c z) i n = s_gst A i n := by
  intro n
  have e : ∀ f j, f ≠ 6 → aF (aU A 6 c z) f j = aF A f j := fun f j hf => aF_ne A (by omega)
  induction n with
  | zero => intro _; rfl
  | succ n ih =>
    intro h
    unfold s_gst
    rw [ih (fun m hm => h m (by omega)), e 14 n (by decide), e 15 n (by decide)]
    by_cases q : (aF A 9 n).toNat = c
    · obtain ⟨a, b⟩ := h n (by omega) q
      rw [a, b, if_neg (by omega), if_neg (by omega), if_neg (by omega), if_neg (by omega)]
    · have ez : s_sz (aU A 6 c z) n = s_sz A n := by unfold s_sz; rw [e 9 n (by decide), aF_ne A (by omega)]
      rw [ez]
theorem sz_size {A : Ab} {c : Nat} {z : Int} (i : Nat) : s_sz (aU A 6 c z) i = if (aF A 9 i).toNat = c then z else s_sz A i := by
  have e : ∀ f j, f ≠ 6 → aF (aU A 6 c z) f j = aF A f j := fun f j hf => aF_ne A (by omega)
  unfold s_sz
  rw [e 9 i (by decide), aF_aU]
  by_cases q : (aF A 9 i).toNat = c <;> simp [q]
theorem aSz_no {P : Nat} {A : Ab} {c : Nat} {z : Int} (hI : Inv P A) (hJ : InvF A) (h : s_aSz A c z = true) : ∀ m, m < A.2.1 → (aF A 9 m).toNat = c → aF A 14 m = -1 ∧ aF A 15 m = -1 := by
  intro m hm hc
  have q := s_all_iff.mp h m hm
  have r := hI.2.2.2.2.2 m hm
  have e9 : aF A 9 m = (c : Int) := by omega
  simp only [e9, decide_true, Bool.not_true, Bool.false_or, Bool.and_eq_true, Bool.not_eq_true', decide_eq_false_iff_not] at q
  have q14 : aF A 14 m = -1 := by
    by_cases y : aF A 14 m = -1
    · exact y
    · exact absurd ((s_st2 hJ hm).mpr y) q.1
  exact ⟨q14, (hJ.2.2.1 m hm).mp q14⟩
theorem size_ok {P : Nat} {A : Ab} {c : Nat} {z : Int} (hI : Inv P A) (hJ : InvF A) (hz : 1 ≤ z ∧ z ≤ 30) (h : s_aSz A c z = true) : Inv P (aU A 6 c z) ∧ InvF (aU A 6 c z) := by
  have e : ∀ f j, f ≠ 6 → aF (aU A 6 c z) f j = aF A f j := fun f j hf => aF_ne A (by omega)
  have no := aSz_no hI hJ h
  refine ⟨Inv_67 hI (Or.inl ⟨rfl, hz⟩), InvF_67 (A := A) rfl (fun f j hf => e f j (by omega)) (fun i j hi hj hn h8 => ?_) (fun i hi => ?_) hJ⟩
  · rw [e 12 i (by decide), e 12 j (by decide)]; exact (hJ.1 i j hi hj hn h8).2.2
  · rw [e 12 i (by decide), e 7 _ (by decide)]
    unfold s_load
    rw [show (aU A 6 c z).2.1 = A.2.1 from rfl, gst_size i A.2.1 no, sz_size]
    have q := hJ.2.2.2.2 i hi
    have r := hI.2.2.2.2.2 i hi
    unfold s_load at q
    split
    · next y =>
      have k := s_all_iff.mp h i hi
      have e9 : aF A 9 i = (c : Int) := by omega
      simp only [e9, decide_true, Bool.not_true, Bool.false_or, Bool.and_eq_true, Bool.not_eq_true', decide_eq_false_iff_not, decide_eq_true_eq] at k
      exact k.2
    · exact q
theorem load_7 {A : Ab} {f c : Nat} {z : Int} (hf : f = 7 ∨ f = 12) {i : Nat} (hi : i < A.2.1) : s_load (aU A f c z) i = s_load A i :=
  s_load_of (A := A) (B := aU A f c z) rfl (fun k => aF_ne A (by omega)) (fun m _ => ⟨aF_ne A (by omega), aF_ne A (by omega), aF_ne A (by omega)⟩) hi
theorem capacity_ok {P : Nat} {A : Ab} {c : Nat} {z : Int} (hI : Inv P A) (hJ : InvF A) (hz : 10 ≤ z ∧ z ≤ 60) (h : s_aCp A c z = true) : Inv P (aU A 7 c z) ∧ InvF (aU A 7 c z) := by
  have e : ∀ f j, f ≠ 7 → aF (aU A 7 c z) f j = aF A f j := fun f j hf => aF_ne A (by omega)
  refine ⟨Inv_67 hI (Or.inr ⟨rfl, hz⟩), InvF_67 (A := A) rfl (fun f j hf => e f j (by omega)) (fun i j hi hj hn h8 => ?_) (fun i hi => ?_) hJ⟩
  · rw [e 12 i (by decide), e 12 j (by decide)]; exact (hJ.1 i j hi hj hn h8).2.2
  · rw [load_7 (Or.inl rfl) hi, e 12 i (by decide), aF_aU]
    have q := hJ.2.2.2.2 i hi
    have r := hI.2.2.2.2.2 i hi
    split
    · next y =>
      have k := s_all_iff.mp h i hi
      have e9 : aF A 12 i = (c : Int) := by omega
      simpa [e9] using k
    · exact q
theorem room_ok {P : Nat} {A : Ab} {i c : Nat} (hI : Inv P A) (hJ : InvF A) (hi : i < A.2.1) (hc : c < 6) (h : s_aRm A i c = true) : Inv P (aU A 12 i c) ∧ InvF (aU A 12 i c) := by
  have e : ∀ f j, f ≠ 12 → aF (aU A 12 i c) f j = aF A f j := fun f j hf => aF_ne A (by omega)
  have e12 : ∀ j, aF (aU A 12 i c) 12 j = if j = i then (c : Int) else aF A 12 j := fun j => by rw [aF_aU]; by_cases y : j = i <;> simp [y]
  obtain ⟨h1, h2⟩ := of_decide_eq_true h
  have other : ∀ j, j < A.2.1 → j ≠ i → aF A 8 j = aF A 8 i → aF A 12 j ≠ c := fun j hj hn h8 y => by
    have := s_find_one (A := A) (f := 12) (s := aF A 8 i) (v := c) hj h8 y (fun m hm a b => by
      rcases Nat.decEq m j with q | q
      · exact absurd (b.trans y.symm) (hJ.1 m j hm hj q (a.trans h8.symm)).2.2
      · exact q)
    omega
  refine ⟨?_, InvF_67 (A := A) rfl (fun f j hf => e f j (by omega)) (fun a b ha hb hn h8 => ?_) (fun a ha => ?_) hJ⟩
  · obtain ⟨i1, i2, i3, i4, i5, i6⟩ := hI
    refine ⟨i1, i2, i3, fun k hk => ?_, fun k hk => ?_, fun m hm => ?_⟩
    · rw [e 1 k (by decide), e 2 k (by decide), e 3 k (by decide), e 4 k (by decide), e 5 k (by decide)]; exact i4 k hk
    · rw [e 6 k (by decide), e 7 k (by decide)]; exact i5 k hk
    · have q := i6 m hm
      rw [e 8 m (by decide), e 9 m (by decide), e 10 m (by decide), e 11 m (by decide), e12, e 13 m (by decide), e 14 m (by decide), e 15 m (by decide), show (aU A 12 i (c : Int)).1 = A.1 from rfl, show (aU A 12 i (c : Int)).2.1 = A.2.1 from rfl]
      split <;> omega
  · rw [e12, e12]
    by_cases qa : a = i
    · rw [if_pos qa, if_neg (fun y => hn (qa.trans y.symm))]
      exact fun y => other b hb (fun z => hn (qa.trans z.symm)) (by rw [← qa]; exact h8.symm) y.symm
    · rw [if_neg qa]
      by_cases qb : b = i
      · rw [if_pos qb]; exact other a ha qa (by rw [← qb]; exact h8)
      · rw [if_neg qb]; exact (hJ.1 a b ha hb hn h8).2.2
  · rw [load_7 (Or.inr rfl) ha, e12, e 7 _ (by decide)]
    have q := hJ.2.2.2.2 a ha
    by_cases qa : a = i
    · rw [if_pos qa, qa, Int.toNat_natCast]; exact h2
    · rw [if_neg qa]; exact q
/-- a lesson is split between a and b -/
theorem s_split_aF (A : Ab) (i a b f j : Nat) (hf : f ≠ 4) : aF (s_split A i a b) f j = if f = 15 ∧ j = i then (b : Int) else if f = 14 ∧ j = i then (a : Int) else aF A f j := by
  unfold s_split s_add
  rw [aF_ne _ (by omega), aF_ne _ (by omega), aF_aU, aF_aU]
theorem gst_split {A : Ab} {i a b : Nat} (h14 : aF A 14 i = -1) (h15 : aF A 15 i = -1) (k : Nat) : ∀ n, s_gst (s_split A i a b) k n = s_gst A k n + (if i < n then (if a = k then (s_sz A i + 1) / 2 else 0) + (if b = k then s_sz A i / 2 else 0) else 0) := by
  intro n
  have e := s_split_aF A i a b
  induction n with
  | zero => rfl
  | succ n ih =>
    have ez : s_sz (s_split A i a b) n = s_sz A n := by unfold s_sz; rw [e 9 n (by decide), if_neg (by omega), if_neg (by omega), e 6 _ (by decide), if_neg (by omega), if_neg (by omega)]
    have c : ∀ x y : Nat, ((x : Int) = (y : Int)) = (x = y) := fun x y => propext ⟨fun h => by omega, fun h => by omega⟩
    by_cases q : n = i
    · have a14 : aF (s_split A i a b) 14 n = a := by rw [e 14 n (by decide), if_neg (by omega), if_pos ⟨rfl, q⟩]
      have a15 : aF (s_split A i a b) 15 n = b := by rw [e 15 n (by decide), if_pos ⟨rfl, q⟩]
      have z1 : s_gst A k (n + 1) = s_gst A k n := by
        show s_gst A k n + _ + _ = _
        rw [q, h14, h15, if_neg (show ¬ (-1 : Int) = k by omega), if_neg (show ¬ (-1 : Int) = k by omega)]
        omega
      show s_gst (s_split A i a b) k n + (if aF (s_split A i a b) 14 n = k then (s_sz (s_split A i a b) n + 1) / 2 else 0) + (if aF (s_split A i a b) 15 n = k then s_sz (s_split A i a b) n / 2 else 0) = _
      rw [z1, ih, ez, a14, a15, if_neg (show ¬ i < n by omega), if_pos (show i < n + 1 by omega), q]
      simp only [c]
      omega
    · have a14 : aF (s_split A i a b) 14 n = aF A 14 n := by rw [e 14 n (by decide), if_neg (by omega), if_neg (by omega)]
      have a15 : aF (s_split A i a b) 15 n = aF A 15 n := by rw [e 15 n (by decide), if_neg (by omega), if_neg (by omega)]
      have z1 : s_gst A k (n + 1) = s_gst A k n + (if aF A 14 n = k then (s_sz A n + 1) / 2 else 0) + (if aF A 15 n = k then s_sz A n / 2 else 0) := rfl
      show s_gst (s_split A i a b) k n + (if aF (s_split A i a b) 14 n = k then (s_sz (s_split A i a b) n + 1) / 2 else 0) + (if aF (s_split A i a b) 15 n = k then s_sz (s_split A i a b) n / 2 else 0) = _
      rw [z1, ih, ez, a14, a15]
      by_cases y : i < n
      · rw [if_pos y, if_pos (show i < n + 1 by omega)]; omega
      · rw [if_neg y, if_neg (show ¬ i < n + 1 by omega)]; omega
theorem split_ok {P : Nat} {A : Ab} {i a b : Nat} (hI : Inv P A) (hJ : InvF A) (hP : P + 2 ≤ 10000000) (hi : i < A.2.1) (ha : a < A.2.1) (hb : b < A.2.1) (h3 : s_st A i = 3) (hab : a ≠ b) (h8a : aF A 8 i = aF A 8 a) (h8b : aF A 8 i = aF A 8 b)
    (na : s_host A a ((s_sz A i + 1) / 2) = true) (nb : s_host A b (s_sz A i / 2) = true) : Inv (P + 2) (s_split A i a b) ∧ InvF (s_split A i a b) := by
  obtain ⟨na1, na2⟩ := of_decide_eq_true na
  obtain ⟨nb1, nb2⟩ := of_decide_eq_true nb
  obtain ⟨k1, k2, k3⟩ := s_st3 h3
  have k4 := (hJ.2.2.1 i hi).mp k3
  refine ⟨?_, ?_⟩
  · have hI1 : Inv P (aU A 14 i a) := Inv_14 hI (Or.inl rfl) (by omega)
    have hI2 : Inv P (aU (aU A 14 i a) 15 i b) := Inv_14 hI1 (Or.inr rfl) ⟨by omega, by show (b : Int) < (A.2.1 : Int); omega⟩
    exact Inv_add (B := 1) (Inv_add (B := 1) hI2 (by decide) (by omega)) (by decide) (by omega)
  · obtain ⟨B, hB⟩ : ∃ B, B = s_split A i a b := ⟨_, rfl⟩
    have e := s_split_aF A i a b
    have g := gst_split (A := A) (i := i) (a := a) (b := b) k3 k4
    have el : B.2.1 = A.2.1 := by rw [hB]; rfl
    rw [← hB] at e g ⊢
    have en : ∀ f j, f ≠ 4 → f ≠ 14 → f ≠ 15 → aF B f j = aF A f j := fun f j h4 h14 h15 => by rw [e f j h4, if_neg (by omega), if_neg (by omega)]
    have e14 : ∀ j, aF B 14 j = if j = i then (a : Int) else aF A 14 j := fun j => by rw [e 14 j (by decide), if_neg (by omega)]; by_cases q : j = i <;> simp [q]
    have e15 : ∀ j, aF B 15 j = if j = i then (b : Int) else aF A 15 j := fun j => by rw [e 15 j (by decide)]; by_cases q : j = i <;> simp [q]
    obtain ⟨j1, j2, j3, j4, j5⟩ := hJ
    have eg : ∀ j, s_gone B j = s_gone A j := fun j => s_gone_of (fun t => en 5 t (by decide) (by decide) (by decide)) (en 8 j (by decide) (by decide) (by decide)) (en 11 j (by decide) (by decide) (by decide))
    have ea : ∀ j, s_act B j = s_act A j := fun j => s_act_of (fun t => en 5 t (by decide) (by decide) (by decide)) (en 8 j (by decide) (by decide) (by decide)) (en 11 j (by decide) (by decide) (by decide)) (en 13 j (by decide) (by decide) (by decide))
    have ew : ∀ k s, s_away B k s = s_away A k s := fun k s => by unfold s_away; rw [en 5 k (by decide) (by decide) (by decide)]
    have e8 : ∀ j, aF B 8 j = aF A 8 j := fun j => en 8 j (by decide) (by decide) (by decide)
    have e9 : ∀ j, aF B 9 j = aF A 9 j := fun j => en 9 j (by decide) (by decide) (by decide)
    have e11 : ∀ j, aF B 11 j = aF A 11 j := fun j => en 11 j (by decide) (by decide) (by decide)
    have e12 : ∀ j, aF B 12 j = aF A 12 j := fun j => en 12 j (by decide) (by decide) (by decide)
    have e13 : ∀ j, aF B 13 j = aF A 13 j := fun j => en 13 j (by decide) (by decide) (by decide)
    refine ⟨fun x y hx hy hxy h8 => ?_, fun x hx h13 => ?_, fun x hx => ?_, fun x hx h14 => ?_, fun x hx => ?_⟩
    · rw [el] at hx hy
      rw [e8, e8] at h8
      rw [e9, e9, e11, e11, e12, e12]
      exact j1 x y hx hy hxy h8
    · rw [el] at hx
      rw [e13] at h13
      obtain ⟨m1, m2, m3, m4, m5, m6⟩ := j2 x hx h13
      have hxi : x ≠ i := fun y => h13 (by rw [y]; exact k2)
      rw [eg, e13, e11, e8, e14, if_neg hxi, ew, el]
      refine ⟨m1, m2, m3, m4, fun j hj h8 => ?_, fun j hj hn h8 => ?_⟩
      · rw [e8] at h8; rw [e11]; exact m5 j hj h8
      · rw [e8] at h8; rw [e13]; exact m6 j hj hn h8
    · rw [el] at hx
      rw [e14, e15]
      by_cases q : x = i
      · rw [if_pos q, if_pos q]; omega
      · rw [if_neg q, if_neg q]; exact j3 x hx
    · rw [el] at hx
      by_cases q : x = i
      · subst q
        rw [eg, e14, e15, if_pos rfl, if_pos rfl, Int.toNat_natCast, Int.toNat_natCast, e8, e8, e8, ea, ea]
        exact ⟨k1, by omega, h8a.symm, h8b.symm, na1, nb1⟩
      · rw [e14, if_neg q] at h14
        rw [eg, e14, e15, if_neg q, if_neg q, e8, e8, e8, ea, ea]
        exact j4 x hx h14
    · rw [el] at hx
      have q := j5 x hx
      unfold s_load at q na2 nb2 ⊢
      have ez : s_sz B x = s_sz A x := by unfold s_sz; rw [e9, en 6 _ (by decide) (by decide) (by decide)]
      rw [ez, el, g, if_pos hi, e12, en 7 _ (by decide) (by decide) (by decide)]
      by_cases qa : a = x
      · subst qa; rw [if_pos rfl, if_neg (fun y => hab y.symm)]; omega
      · rw [if_neg qa]
        by_cases qb : b = x
        · subst qb; rw [if_pos rfl]; omega
        · rw [if_neg qb]; omega

