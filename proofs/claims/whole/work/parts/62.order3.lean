/-! Schools stay in order: new teachers, new lessons. -/
theorem putT_ok {P : Nat} {A : Ab} {su w : Int} (hI : Inv P A) (hJ : InvF A) (ht : A.1 < 8) (h1 : 1 ≤ su ∧ su ≤ 63) (h2 : 1 ≤ w ∧ w ≤ 4) : Inv P (s_putT A su w) ∧ InvF (s_putT A su w) := by
  obtain ⟨i1, i2, i3, i4, i5, i6⟩ := hI
  have eF : ∀ f j, aF (s_putT A su w) f j = if j = A.1 ∧ 1 ≤ f ∧ f ≤ 5 then (if f = 1 then su else if f = 2 then w else if f = 3 then 2 else 0) else aF A f j := fun _ _ => rfl
  have en : ∀ f j, 6 ≤ f → aF (s_putT A su w) f j = aF A f j := fun f j hf => by rw [eF, if_neg (by omega)]
  have eo : ∀ f j, j < A.1 → aF (s_putT A su w) f j = aF A f j := fun f j hj => by rw [eF, if_neg (by omega)]
  have el : (s_putT A su w).2.1 = A.2.1 := rfl
  have et : (s_putT A su w).1 = A.1 + 1 := rfl
  refine ⟨⟨by omega, i2, i3, fun k hk => ?_, fun c hc => ?_, fun i hi => ?_⟩, ?_⟩
  · by_cases q : k = A.1
    · subst q
      have e1 : aF (s_putT A su w) 1 A.1 = su := by rw [eF, if_pos (by omega)]; rfl
      have e2 : aF (s_putT A su w) 2 A.1 = w := by rw [eF, if_pos (by omega)]; rfl
      have e3 : aF (s_putT A su w) 3 A.1 = 2 := by rw [eF, if_pos (by omega)]; rfl
      have e4 : aF (s_putT A su w) 4 A.1 = 0 := by rw [eF, if_pos (by omega)]; rfl
      have e5 : aF (s_putT A su w) 5 A.1 = 0 := by rw [eF, if_pos (by omega)]; rfl
      rw [e1, e2, e3, e4, e5]
      omega
    · rw [eo 1 k (by omega), eo 2 k (by omega), eo 3 k (by omega), eo 4 k (by omega), eo 5 k (by omega)]
      exact i4 k (by omega)
  · rw [en 6 c (by decide), en 7 c (by decide)]; exact i5 c hc
  · have q := i6 i hi
    rw [en 8 i (by decide), en 9 i (by decide), en 10 i (by decide), en 11 i (by decide), en 12 i (by decide), en 13 i (by decide), en 14 i (by decide), en 15 i (by decide), et, el]
    omega
  · obtain ⟨j1, j2, j3, j4, j5⟩ := hJ
    have ew : ∀ (k : Nat) (z : Int), k < A.1 → s_away (s_putT A su w) k z = s_away A k z := fun k z hk => by unfold s_away; rw [eo 5 k hk]
    have eg : ∀ j, j < A.2.1 → s_gone (s_putT A su w) j = s_gone A j := fun j hj => by
      have q := i6 j hj
      unfold s_gone s_own
      rw [en 11 j (by decide), en 8 j (by decide)]
      exact ew _ _ (by omega)
    have ea : ∀ j, j < A.2.1 → s_act (s_putT A su w) j = s_act A j := fun j hj => by
      unfold s_act; rw [eg j hj, en 13 j (by decide), en 11 j (by decide)]
    refine ⟨fun a b ha hb hab h8 => ?_, fun a ha h13 => ?_, fun a ha => ?_, fun a ha h14 => ?_, fun a ha => ?_⟩
    · rw [en 8 _ (by decide), en 8 _ (by decide)] at h8
      rw [en 9 _ (by decide), en 9 _ (by decide), en 11 _ (by decide), en 11 _ (by decide), en 12 _ (by decide), en 12 _ (by decide)]
      exact j1 a b ha hb hab h8
    · have ha : a < A.2.1 := ha
      rw [en 13 a (by decide)] at h13
      obtain ⟨k1, k2, k3, k4, k5, k6⟩ := j2 a ha h13
      have q := i6 a ha
      rw [eg a ha, en 13 a (by decide), en 11 a (by decide), en 8 a (by decide), en 14 a (by decide), ew _ _ (by omega)]
      refine ⟨k1, k2, k3, k4, fun j hj h8 => ?_, fun j hj hn h8 => ?_⟩
      · rw [en 8 j (by decide)] at h8; rw [en 11 j (by decide)]; exact k5 j hj h8
      · rw [en 8 j (by decide)] at h8; rw [en 13 j (by decide)]; exact k6 j hj hn h8
    · rw [en 14 a (by decide), en 15 a (by decide)]
      exact j3 a ha
    · have ha : a < A.2.1 := ha
      rw [en 14 a (by decide)] at h14
      have q := i6 a ha
      have h15 : aF A 15 a ≠ -1 := fun y => h14 ((j3 a ha).mpr y)
      rw [eg a ha, en 14 a (by decide), en 15 a (by decide), en 8 _ (by decide), en 8 a (by decide), en 8 _ (by decide), ea _ (by omega), ea _ (by omega)]
      exact j4 a ha h14
    · have ha : a < A.2.1 := ha
      rw [s_load_of (B := s_putT A su w) (A := A) rfl (fun c => en 6 c (by decide)) (fun m _ => ⟨en 9 m (by decide), en 14 m (by decide), en 15 m (by decide)⟩) ha, en 12 a (by decide), en 7 _ (by decide)]
      exact j5 a ha
theorem s_gst_none {A : Ab} {k : Nat} : ∀ n, (∀ m, m < n → aF A 14 m ≠ k ∧ aF A 15 m ≠ k) → s_gst A k n = 0 := by
  intro n
  induction n with
  | zero => intro _; rfl
  | succ n ih =>
    intro h
    obtain ⟨a, b⟩ := h n (by omega)
    unfold s_gst
    rw [ih (fun m hm => h m (by omega)), if_neg a, if_neg b]
    rfl
theorem putL_ok {P : Nat} {A : Ab} {s c u o r : Int} (hI : Inv P A) (hJ : InvF A) (h0 : s_fault A s c u o r = 0) : Inv P (s_putL A s c u o r) ∧ InvF (s_putL A s c u o r) := by
  obtain ⟨⟨r1, r2, r3, r4, r5⟩, ⟨f1, f2, f3, f4, f5⟩, hl⟩ := s_fault_0 h0
  have g1 := s_find_no f1
  have g2 := s_find_no f2
  have g3 := s_find_no f3
  have g4 := s_find_no f4
  have hI0 := hI
  obtain ⟨i1, i2, i3, i4, i5, i6⟩ := hI
  obtain ⟨B, hB⟩ : ∃ B, B = s_putL A s c u o r := ⟨_, rfl⟩
  rw [← hB]
  have eF : ∀ f j, aF B f j = if j = A.2.1 ∧ 8 ≤ f ∧ f ≤ 15 then (if f = 8 then s else if f = 9 then c else if f = 10 then u else if f = 11 then o else if f = 12 then r else -1) else aF A f j := fun _ _ => by rw [hB]; rfl
  have en : ∀ f j, j < A.2.1 ∨ f < 8 → aF B f j = aF A f j := fun f j hj => by rw [eF, if_neg (by omega)]
  have el : B.2.1 = A.2.1 + 1 := by rw [hB]; rfl
  have et : B.1 = A.1 := by rw [hB]; rfl
  have n8 : aF B 8 A.2.1 = s := by rw [eF, if_pos (by omega)]; rfl
  have n9 : aF B 9 A.2.1 = c := by rw [eF, if_pos (by omega)]; rfl
  have n10 : aF B 10 A.2.1 = u := by rw [eF, if_pos (by omega)]; rfl
  have n11 : aF B 11 A.2.1 = o := by rw [eF, if_pos (by omega)]; rfl
  have n12 : aF B 12 A.2.1 = r := by rw [eF, if_pos (by omega)]; rfl
  have n13 : aF B 13 A.2.1 = -1 := by rw [eF, if_pos (by omega)]; rfl
  have n14 : aF B 14 A.2.1 = -1 := by rw [eF, if_pos (by omega)]; rfl
  have n15 : aF B 15 A.2.1 = -1 := by rw [eF, if_pos (by omega)]; rfl
  refine ⟨⟨by omega, by omega, i3, fun k hk => ?_, fun k hk => ?_, fun i hi => ?_⟩, ?_⟩
  · rw [en 1 k (by omega), en 2 k (by omega), en 3 k (by omega), en 4 k (by omega), en 5 k (by omega)]
    exact i4 k (by omega)
  · rw [en 6 k (by omega), en 7 k (by omega)]; exact i5 k hk
  · by_cases q : i = A.2.1
    · subst q
      rw [n8, n9, n10, n11, n12, n13, n14, n15, et, el]
      omega
    · have hi2 : i < A.2.1 := by omega
      have q := i6 i hi2
      rw [en 8 i (by omega), en 9 i (by omega), en 10 i (by omega), en 11 i (by omega), en 12 i (by omega), en 13 i (by omega), en 14 i (by omega), en 15 i (by omega), et, el]
      omega
  · obtain ⟨j1, j2, j3, j4, j5⟩ := hJ
    have ew : ∀ (k : Nat) (z : Int), s_away B k z = s_away A k z := fun k z => by unfold s_away; rw [en 5 k (by omega)]
    have eg : ∀ j, j < A.2.1 → s_gone B j = s_gone A j := fun j hj => s_gone_of (fun t => en 5 t (by omega)) (en 8 j (by omega)) (en 11 j (by omega))
    have ea : ∀ j, j < A.2.1 → s_act B j = s_act A j := fun j hj => s_act_of (fun t => en 5 t (by omega)) (en 8 j (by omega)) (en 11 j (by omega)) (en 13 j (by omega))
    have eq : ∀ k, s_gst B k B.2.1 = s_gst A k A.2.1 := fun k => by
      rw [el]
      show s_gst B k A.2.1 + _ + _ = _
      rw [n14, n15, if_neg (by omega), if_neg (by omega), s_gst_of (fun z => en 6 z (by omega)) A.2.1 (fun m hm => ⟨en 9 m (by omega), en 14 m (by omega), en 15 m (by omega)⟩)]
      omega
    refine ⟨fun a b ha hb hab h8 => ?_, fun a ha h13 => ?_, fun a ha => ?_, fun a ha h14 => ?_, fun a ha => ?_⟩
    · by_cases qa : a = A.2.1
      · subst qa
        have hb2 : b < A.2.1 := by omega
        rw [n8, en 8 b (by omega)] at h8
        rw [n9, n11, n12, en 9 b (by omega), en 11 b (by omega), en 12 b (by omega)]
        exact ⟨fun y => g1 b hb2 h8.symm y.symm, fun y => g2 b hb2 h8.symm y.symm, fun y => g3 b hb2 h8.symm y.symm⟩
      · have ha2 : a < A.2.1 := by omega
        by_cases qb : b = A.2.1
        · subst qb
          rw [n8, en 8 a (by omega)] at h8
          rw [n9, n11, n12, en 9 a (by omega), en 11 a (by omega), en 12 a (by omega)]
          exact ⟨g1 a ha2 h8, g2 a ha2 h8, g3 a ha2 h8⟩
        · have hb2 : b < A.2.1 := by omega
          rw [en 8 a (by omega), en 8 b (by omega)] at h8
          rw [en 9 a (by omega), en 9 b (by omega), en 11 a (by omega), en 11 b (by omega), en 12 a (by omega), en 12 b (by omega)]
          exact j1 a b ha2 hb2 hab h8
    · by_cases qa : a = A.2.1
      · subst qa; exact absurd n13 h13
      · have ha2 : a < A.2.1 := by omega
        rw [en 13 a (by omega)] at h13
        obtain ⟨k1, k2, k3, k4, k5, k6⟩ := j2 a ha2 h13
        rw [eg a ha2, en 13 a (by omega), en 11 a (by omega), en 8 a (by omega), en 14 a (by omega), ew]
        refine ⟨k1, k2, k3, k4, fun j hj h8 => ?_, fun j hj hn h8 => ?_⟩
        · by_cases qj : j = A.2.1
          · subst qj
            rw [n8] at h8
            rw [n11]
            exact fun y => g4 a ha2 h8.symm y.symm
          · rw [en 8 j (by omega)] at h8; rw [en 11 j (by omega)]; exact k5 j (by omega) h8
        · by_cases qj : j = A.2.1
          · subst qj
            rw [n13]
            exact fun y => h13 y.symm
          · rw [en 8 j (by omega)] at h8; rw [en 13 j (by omega)]; exact k6 j (by omega) hn h8
    · by_cases qa : a = A.2.1
      · subst qa; rw [n14, n15]
      · rw [en 14 a (by omega), en 15 a (by omega)]
        exact j3 a (by omega)
    · by_cases qa : a = A.2.1
      · subst qa; exact absurd n14 h14
      · have ha2 : a < A.2.1 := by omega
        rw [en 14 a (by omega)] at h14
        have q := i6 a ha2
        have h15 : aF A 15 a ≠ -1 := fun y => h14 ((j3 a ha2).mpr y)
        rw [eg a ha2, en 14 a (by omega), en 15 a (by omega), en 8 _ (by omega), en 8 a (by omega), en 8 _ (by omega), ea _ (by omega), ea _ (by omega)]
        exact j4 a ha2 h14
    · by_cases qa : a = A.2.1
      · subst qa
        unfold s_load
        rw [eq, s_gst_none A.2.1 (fun m hm => by have q := i6 m hm; omega), n12, en 7 _ (by omega)]
        unfold s_sz
        rw [n9, en 6 _ (by omega)]
        omega
      · have ha2 : a < A.2.1 := by omega
        have e : s_load B a = s_load A a := by
          unfold s_load s_sz
          rw [eq, en 9 a (by omega), en 6 _ (by omega)]
        rw [e, en 12 a (by omega), en 7 _ (by omega)]
        exact j5 a ha2
