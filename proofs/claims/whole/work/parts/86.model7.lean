/-! THE REFERENCE: new teachers and lessons; limits, sizes, capacities, rooms. -/
def x_fp (h h' : ux_H) : Prop := (∀ c, c ≠ 192 → c ≠ 193 → ∀ j, h' c j = h c j) ∧ ∀ j, j ≠ 0 → h' 192 j = h 192 j
def QN (K : Nat) (R : Int32) (A A2 : Ab) (h : ux_H) (v : Option Value) (h' : ux_H) : Prop := v = some (.int (if K = 0 then R else 0)) ∧ rM 193 0 (if K = 0 then A2 else A) h' ∧ xgi h' 192 0 = (if K = 0 then xgi h 192 0 else nI K) ∧ x_fp h h'
theorem qn_no {K c : Nat} {R : Int32} {A A2 : Ab} {h : ux_H} (hk : K = c) (hc : c ≠ 0) (hM : rM 193 0 A h) : QN K R A A2 h (some (.int 0)) (xsi h 192 0 (nI c)) := by
  subst hk
  refine ⟨by rw [if_neg hc], ?_, ?_, fun c9 h1 h2 j => by unfold xsi xsv; rw [if_neg (by omega)], fun j hj => by unfold xsi xsv; rw [if_neg (by omega)]⟩
  · rw [if_neg hc]; exact rM_0t (Or.inl rfl) hM
  · rw [if_neg hc]; exact xgi_si _ _ _ _
theorem qn_ok {K : Nat} {R : Int32} {A A2 : Ab} {h h1 : ux_H} (hk : K = 0) (hM : rM 193 0 A2 h1) (hF : x_fm h h1) : QN K R A A2 h (some (.int R)) h1 := by
  subst hk
  refine ⟨by rw [if_pos rfl], ?_, ?_, fun c h1 h2 j => hF c h2 j, fun j _ => hF 192 (by decide) j⟩
  · rw [if_pos rfl]; exact hM
  · rw [if_pos rfl]; unfold xgi; rw [hF 192 (by decide) 0]
theorem qn_thr {K : Nat} {R : Int32} {A A2 : Ab} {h h1 : ux_H} {v : Option Value} (q : QN K R A A2 h v h1) (h0 : xgi h 192 0 = 0) (hK : K ≤ 1000) : xgi h1 192 0 = 0 ↔ K = 0 := by
  rw [q.2.2.1]
  by_cases y : K = 0
  · rw [if_pos y]; exact ⟨fun _ => y, fun _ => h0⟩
  · rw [if_neg y, nI_iI, xq0 (by omega) (by omega)]; omega
theorem x_fN_p {h h1 : ux_H} (a : x_fp h h1) : x_fN h h1 := ⟨fun c hc j => a.1 c (by omega) (by omega) j, fun j hj => a.2 j (by omega)⟩
theorem rK_p {Hs : List Ab} {h h' : ux_H} (hK : rK Hs h) (hF : x_fp h h') : rK Hs h' := rK_fr hK (fun a => hF.1 196 (by decide) (by decide) a) (hF.2 6 (by decide))
theorem q6_nn {K : Nat} {R : Int32} {A A2 : Ab} {Hs : List Ab} {h h1 h2 : ux_H} {v : Option Value} (q : QN K R A A2 h1 v h2) (hk : K ≠ 0) (hK : rK Hs h1) (hF : x_fN h h1) : Q6 K R A A2 Hs h v h2 := by
  obtain ⟨a, b, c, d⟩ := q
  refine ⟨a, ?_, b, ?_, x_fN_tr hF (x_fN_p d)⟩
  · rw [c, if_neg hk]
  · rw [if_neg hk]; exact rK_p hK d
theorem rM_putT {A : Ab} {h : ux_H} (hM : rM 193 0 A h) (i1 : A.1 < 8) (i2 : A.2.1 ≤ 40) (su w : Int) : rM 193 0 (s_putT A su w) (xsi (xsi (xsi (xsi (xsi (xsi h 193 (16 + 5 * A.1) (iI su)) 193 (16 + 5 * A.1 + 1) (iI w)) 193 (16 + 5 * A.1 + 2) 2) 193 (16 + 5 * A.1 + 3) 0) 193 (16 + 5 * A.1 + 4) 0) 193 0 (nI (A.1 + 1))) := by
  refine ⟨xgi_si _ _ _ _, ?_, fun f b hb => ?_⟩
  · rw [xgi_ne _ _ _ _ _ _ (by omega), xgi_ne _ _ _ _ _ _ (by omega), xgi_ne _ _ _ _ _ _ (by omega), xgi_ne _ _ _ _ _ _ (by omega), xgi_ne _ _ _ _ _ _ (by omega), xgi_ne _ _ _ _ _ _ (by omega)]
    exact hM.2.1
  · have kb : b_in f b := b_in_of hb (show A.1 + 1 ≤ 8 by omega) i2
    have m2 : 2 ≤ m_at f b := m_at_2 (by unfold b_in at kb; omega)
    rw [Nat.zero_add, xgi_ne _ _ _ _ _ _ (by omega)]
    have eF : aF (s_putT A su w) f b = if b = A.1 ∧ 1 ≤ f ∧ f ≤ 5 then (if f = 1 then su else if f = 2 then w else if f = 3 then 2 else 0) else aF A f b := rfl
    by_cases y : b = A.1 ∧ 1 ≤ f ∧ f ≤ 5
    · rw [eF, if_pos y]
      obtain ⟨rfl, y1, y2⟩ := y
      obtain h1 | h1 | h1 | h1 | h1 : f = 1 ∨ f = 2 ∨ f = 3 ∨ f = 4 ∨ f = 5 := by omega
      all_goals subst h1
      · rw [xgi_ne _ _ _ _ _ _ (by show ¬ (_ ∧ 16 + 5 * A.1 = _); omega), xgi_ne _ _ _ _ _ _ (by show ¬ (_ ∧ 16 + 5 * A.1 = _); omega), xgi_ne _ _ _ _ _ _ (by show ¬ (_ ∧ 16 + 5 * A.1 = _); omega), xgi_ne _ _ _ _ _ _ (by show ¬ (_ ∧ 16 + 5 * A.1 = _); omega)]
        exact xgi_si _ _ _ _
      · rw [xgi_ne _ _ _ _ _ _ (by show ¬ (_ ∧ 17 + 5 * A.1 = _); omega), xgi_ne _ _ _ _ _ _ (by show ¬ (_ ∧ 17 + 5 * A.1 = _); omega), xgi_ne _ _ _ _ _ _ (by show ¬ (_ ∧ 17 + 5 * A.1 = _); omega), xgi_sif, if_pos ⟨rfl, by show 17 + 5 * A.1 = _; omega⟩]
        rfl
      · rw [xgi_ne _ _ _ _ _ _ (by show ¬ (_ ∧ 18 + 5 * A.1 = _); omega), xgi_ne _ _ _ _ _ _ (by show ¬ (_ ∧ 18 + 5 * A.1 = _); omega), xgi_sif, if_pos ⟨rfl, by show 18 + 5 * A.1 = _; omega⟩]
        rfl
      · rw [xgi_sif, if_pos ⟨rfl, by show 20 + 5 * A.1 = _; omega⟩]
        rfl
      · rw [xgi_ne _ _ _ _ _ _ (by show ¬ (_ ∧ 19 + 5 * A.1 = _); omega), xgi_sif, if_pos ⟨rfl, by show 19 + 5 * A.1 = _; omega⟩]
        rfl
    · rw [eF, if_neg y]
      have hb2 : a_in A f b := by
        unfold a_in at hb ⊢
        have : (s_putT A su w).1 = A.1 + 1 := rfl
        have : (s_putT A su w).2.1 = A.2.1 := rfl
        omega
      have q := hM.2.2 f b hb2
      rw [Nat.zero_add] at q
      have k9 : m_at f b < 16 + 5 * A.1 ∨ 16 + 5 * A.1 + 5 ≤ m_at f b := by
        have : (s_putT A su w).1 = A.1 + 1 := rfl
        have : (s_putT A su w).2.1 = A.2.1 := rfl
        unfold a_in at hb
        rcases m_at_w kb with k | ⟨v, k⟩ | k | k | k <;> omega
      rw [xgi_ne _ _ _ _ _ _ (by omega), xgi_ne _ _ _ _ _ _ (by omega), xgi_ne _ _ _ _ _ _ (by omega), xgi_ne _ _ _ _ _ _ (by omega), xgi_ne _ _ _ _ _ _ (by omega)]
      exact q
theorem rM_putL {A : Ab} {h : ux_H} (hM : rM 193 0 A h) (i1 : A.1 ≤ 8) (i2 : A.2.1 < 40) (s c u o r : Int) : rM 193 0 (s_putL A s c u o r) (xsi (xsi (xsi (xsi (xsi (xsi (xsi (xsi (xsi h 193 (56 + 8 * A.2.1) (iI s)) 193 (56 + 8 * A.2.1 + 1) (iI c)) 193 (56 + 8 * A.2.1 + 2) (iI u)) 193 (56 + 8 * A.2.1 + 3) (iI o)) 193 (56 + 8 * A.2.1 + 4) (iI r)) 193 (56 + 8 * A.2.1 + 5) (-1)) 193 (56 + 8 * A.2.1 + 6) (-1)) 193 (56 + 8 * A.2.1 + 7) (-1)) 193 1 (nI (A.2.1 + 1))) := by
  refine ⟨?_, xgi_si _ _ _ _, fun f b hb => ?_⟩
  · rw [xgi_ne _ _ _ _ _ _ (by omega), xgi_ne _ _ _ _ _ _ (by omega), xgi_ne _ _ _ _ _ _ (by omega), xgi_ne _ _ _ _ _ _ (by omega), xgi_ne _ _ _ _ _ _ (by omega), xgi_ne _ _ _ _ _ _ (by omega), xgi_ne _ _ _ _ _ _ (by omega), xgi_ne _ _ _ _ _ _ (by omega), xgi_ne _ _ _ _ _ _ (by omega)]
    exact hM.1
  · have kb : b_in f b := b_in_of hb i1 (show A.2.1 + 1 ≤ 40 by omega)
    have m2 : 2 ≤ m_at f b := m_at_2 (by unfold b_in at kb; omega)
    rw [Nat.zero_add, xgi_ne _ _ _ _ _ _ (by omega)]
    have eF : aF (s_putL A s c u o r) f b = if b = A.2.1 ∧ 8 ≤ f ∧ f ≤ 15 then (if f = 8 then s else if f = 9 then c else if f = 10 then u else if f = 11 then o else if f = 12 then r else -1) else aF A f b := rfl
    by_cases y : b = A.2.1 ∧ 8 ≤ f ∧ f ≤ 15
    · rw [eF, if_pos y]
      obtain ⟨rfl, y1, y2⟩ := y
      have em : m_at f A.2.1 = 56 + 8 * A.2.1 + (f - 8) := by
        rcases m_at_w kb with k | ⟨v, k⟩ | k | k | k <;> omega
      rw [em]
      simp only [xgi_sif, true_and]
      obtain h1 | h1 | h1 | h1 | h1 | h1 | h1 | h1 : f = 8 ∨ f = 9 ∨ f = 10 ∨ f = 11 ∨ f = 12 ∨ f = 13 ∨ f = 14 ∨ f = 15 := by omega
      all_goals subst h1
      · rw [if_neg (by omega), if_neg (by omega), if_neg (by omega), if_neg (by omega), if_neg (by omega), if_neg (by omega), if_neg (by omega), if_pos (by omega)]; rfl
      · rw [if_neg (by omega), if_neg (by omega), if_neg (by omega), if_neg (by omega), if_neg (by omega), if_neg (by omega), if_pos (by omega)]; rfl
      · rw [if_neg (by omega), if_neg (by omega), if_neg (by omega), if_neg (by omega), if_neg (by omega), if_pos (by omega)]; rfl
      · rw [if_neg (by omega), if_neg (by omega), if_neg (by omega), if_neg (by omega), if_pos (by omega)]; rfl
      · rw [if_neg (by omega), if_neg (by omega), if_neg (by omega), if_pos (by omega)]; rfl
      · rw [if_neg (by omega), if_neg (by omega), if_pos (by omega)]; rfl
      · rw [if_neg (by omega), if_pos (by omega)]; rfl
      · rw [if_pos (by omega)]; rfl
    · rw [eF, if_neg y]
      have hb2 : a_in A f b := by
        unfold a_in at hb ⊢
        have : (s_putL A s c u o r).1 = A.1 := rfl
        have : (s_putL A s c u o r).2.1 = A.2.1 + 1 := rfl
        omega
      have q := hM.2.2 f b hb2
      rw [Nat.zero_add] at q
      have k9 : m_at f b < 56 + 8 * A.2.1 := by
        unfold a_in at hb2
        rcases m_at_w kb with k | ⟨v, k⟩ | k | k | k <;> omega
      rw [xgi_ne _ _ _ _ _ _ (by omega), xgi_ne _ _ _ _ _ _ (by omega), xgi_ne _ _ _ _ _ _ (by omega), xgi_ne _ _ _ _ _ _ (by omega), xgi_ne _ _ _ _ _ _ (by omega), xgi_ne _ _ _ _ _ _ (by omega), xgi_ne _ _ _ _ _ _ (by omega), xgi_ne _ _ _ _ _ _ (by omega)]
      exact q
theorem col_eq {A : Ab} {a b c e : Int} : (s_all (fun i => !decide (aF A 8 i = a) || (!decide (aF A 9 i = b) && !decide (aF A 11 i = c) && !decide (aF A 12 i = e))) A.2.1 = true ∧ s_find A 13 a c = -1 ∧ aF A 6 b.toNat ≤ aF A 7 e.toNat) ↔ ¬ (s_find A 9 a b ≠ -1 ∨ s_find A 11 a c ≠ -1 ∨ s_find A 12 a e ≠ -1 ∨ s_find A 13 a c ≠ -1 ∨ aF A 7 e.toNat < aF A 6 b.toNat) := by
  have key : s_all (fun i => !decide (aF A 8 i = a) || (!decide (aF A 9 i = b) && !decide (aF A 11 i = c) && !decide (aF A 12 i = e))) A.2.1 = true ↔ s_find A 9 a b = -1 ∧ s_find A 11 a c = -1 ∧ s_find A 12 a e = -1 := by
    rw [s_all_iff]
    constructor
    · intro h
      have g : ∀ f v, (f = 9 ∧ v = b) ∨ (f = 11 ∧ v = c) ∨ (f = 12 ∧ v = e) → s_find A f a v = -1 := by
        intro f v hf
        by_cases q : s_find A f a v = -1
        · exact q
        · obtain ⟨k1, k2, k3, k4⟩ := s_find_yes q
          have := h _ k1
          simp only [k2, decide_true, Bool.not_true, Bool.false_or, Bool.and_eq_true, Bool.not_eq_true', decide_eq_false_iff_not] at this
          rcases hf with ⟨rfl, rfl⟩ | ⟨rfl, rfl⟩ | ⟨rfl, rfl⟩
          · exact absurd k3 this.1.1
          · exact absurd k3 this.1.2
          · exact absurd k3 this.2
      exact ⟨g 9 b (Or.inl ⟨rfl, rfl⟩), g 11 c (Or.inr (Or.inl ⟨rfl, rfl⟩)), g 12 e (Or.inr (Or.inr ⟨rfl, rfl⟩))⟩
    · rintro ⟨h1, h2, h3⟩ i hi
      by_cases q : aF A 8 i = a
      · have n1 := s_find_no h1 i hi q
        have n2 := s_find_no h2 i hi q
        have n3 := s_find_no h3 i hi q
        simp [n1, n2, n3]
      · simp [q]
  rw [key]
  omega
theorem aU_aU (A : Ab) (f j : Nat) (v w : Int) : aU (aU A f j v) f j w = aU A f j w :=
  Ab_ext rfl rfl fun a b => by
    rw [aF_aU, aF_aU, aF_aU]
    by_cases q : a = f ∧ b = j
    · rw [if_pos q, if_pos q]
    · rw [if_neg q, if_neg q, if_neg q]
theorem aU_bk {A : Ab} {f j : Nat} {v : Int} : aU (aU A f j v) f j (aF A f j) = A := by rw [aU_aU, aU_id rfl]
theorem st_size {A : Ab} {c : Nat} {z : Int} (i : Nat) : s_st (aU A 6 c z) i = s_st A i :=
  s_st_of (fun t => aF_ne A (by omega)) (aF_ne A (by omega)) (aF_ne A (by omega)) (aF_ne A (by omega)) (aF_ne A (by omega))
theorem size_eq {P : Nat} {A : Ab} {c : Nat} {z : Int} (hI : Inv P A) (hJ : InvF A) (hz : 1 ≤ z ∧ z ≤ 30) : (s_all (fun i => !decide (aF (aU A 6 c z) 9 i = (c : Int)) || !decide (s_st (aU A 6 c z) i = 2)) (aU A 6 c z).2.1 = true ∧ s_all (fun i => decide (s_load (aU A 6 c z) i ≤ aF (aU A 6 c z) 7 (aF (aU A 6 c z) 12 i).toNat)) (aU A 6 c z).2.1 = true) ↔ s_aSz A c z = true := by
  have e : ∀ f j, f ≠ 6 → aF (aU A 6 c z) f j = aF A f j := fun f j hf => aF_ne A (by omega)
  constructor
  · rintro ⟨h1, h2⟩
    rw [s_all_iff] at h1 h2
    have no : ∀ m, m < A.2.1 → (aF A 9 m).toNat = c → aF A 14 m = -1 ∧ aF A 15 m = -1 := fun m hm hc => by
      have r := hI.2.2.2.2.2 m hm
      have q := h1 m hm
      rw [e 9 m (by decide), st_size, show aF A 9 m = (c : Int) by omega] at q
      have q2 : ¬ s_st A m = 2 := by simpa using q
      have q14 : aF A 14 m = -1 := Decidable.byContradiction fun y => q2 ((s_st2 hJ hm).mpr y)
      exact ⟨q14, (hJ.2.2.1 m hm).mp q14⟩
    unfold s_aSz
    rw [s_all_iff]
    intro i hi
    by_cases q : aF A 9 i = c
    · have a := h1 i hi
      have b := of_decide_eq_true (h2 i hi)
      rw [e 9 i (by decide), st_size] at a
      have a2 : ¬ s_st A i = 2 := by simpa [q] using a
      rw [e 12 i (by decide), e 7 _ (by decide)] at b
      unfold s_load at b
      rw [show (aU A 6 c z).2.1 = A.2.1 from rfl, gst_size i A.2.1 no, sz_size, if_pos (by omega)] at b
      simp [q, a2, b]
    · simp [q]
  · intro h
    have k := s_all_iff.mp h
    refine ⟨s_all_iff.mpr fun i hi => ?_, s_all_iff.mpr fun i hi => decide_eq_true ((size_ok hI hJ hz h).2.2.2.2.2 i hi)⟩
    have a := k i hi
    rw [e 9 i (by decide), st_size]
    by_cases q : aF A 9 i = c
    · have : ¬ s_st A i = 2 := by
        simp only [q, decide_true, Bool.not_true, Bool.false_or, Bool.and_eq_true, Bool.not_eq_true', decide_eq_false_iff_not] at a
        exact a.1
      simp [this]
    · simp [q]
theorem capacity_eq {P : Nat} {A : Ab} {c : Nat} {z : Int} (hI : Inv P A) (hJ : InvF A) (hz : 10 ≤ z ∧ z ≤ 60) : s_all (fun i => decide (s_load (aU A 7 c z) i ≤ aF (aU A 7 c z) 7 (aF (aU A 7 c z) 12 i).toNat)) (aU A 7 c z).2.1 = true ↔ s_aCp A c z = true := by
  constructor
  · intro h
    rw [s_all_iff] at h
    unfold s_aCp
    rw [s_all_iff]
    intro i hi
    have b := of_decide_eq_true (h i hi)
    by_cases q : aF A 12 i = c
    · rw [load_7 (Or.inl rfl) hi, aF_ne A (show ¬ (12 = 7 ∧ i = c) by omega), q, Int.toNat_natCast, aF_eq] at b
      simp [q, b]
    · simp [q]
  · intro h
    exact s_all_iff.mpr fun i hi => decide_eq_true ((capacity_ok hI hJ hz h).2.2.2.2.2 i hi)
theorem room_eq {A : Ab} (hJ : InvF A) {i c : Nat} (hi : i < A.2.1) : s_aRm A i c = true ↔ (s_all (fun j => decide (j = i) || !decide (aF A 8 j = aF A 8 i) || !decide (aF A 12 j = (c : Int))) A.2.1 = true ∧ s_load A i ≤ aF A 7 c) := by
  unfold s_aRm
  rw [decide_eq_true_iff, s_all_iff]
  refine and_congr_left fun _ => ⟨fun h j hj => ?_, fun h => ?_⟩
  · by_cases q : j = i
    · simp [q]
    · by_cases q8 : aF A 8 j = aF A 8 i
      · have : aF A 12 j ≠ c := fun y => by
          have := s_find_one (A := A) (f := 12) (s := aF A 8 i) (v := c) hj q8 y (fun m hm a b => Decidable.byContradiction fun z => (hJ.1 m j hm hj z (a.trans q8.symm)).2.2 (b.trans y.symm))
          omega
        simp [this]
      · simp [q8]
  · by_cases q : s_find A 12 (aF A 8 i) c = -1
    · exact Or.inl q
    · right
      obtain ⟨k1, k2, k3, k4⟩ := s_find_yes q
      have := h _ k1
      by_cases y : (s_find A 12 (aF A 8 i) c).toNat = i
      · omega
      · simp [y, k2, k3] at this
