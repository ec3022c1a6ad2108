/-! Schools stay in order: a lesson is removed. -/
def ph (i j : Nat) : Nat := if j < i then j else j + 1
def ps (i : Nat) (x : Int) : Int := if (i : Int) < x then x - 1 else x
theorem ph_lt {i j n : Nat} (hj : j < n - 1) : ph i j < n := by unfold ph; split <;> omega
theorem ph_ne {i a b : Nat} (h : a ≠ b) : ph i a ≠ ph i b := by unfold ph; split <;> split <;> omega
theorem ph_i {i a : Nat} : ph i a ≠ i := by unfold ph; split <;> omega
theorem ph_ps {i n : Nat} {x : Int} (h0 : 0 ≤ x) (hn : x ≠ i) : ph i (ps i x).toNat = x.toNat := by
  unfold ph ps
  split <;> split <;> omega
theorem ps_ph {i k : Nat} {x : Int} (h0 : -1 ≤ x) (hn : x ≠ i) : ps i x = k ↔ x = ph i k := by
  unfold ph ps
  split <;> split <;> omega
theorem drm_aF {E : Ab} {i f j : Nat} (hj : j < E.2.1 - 1) (hf : 8 ≤ f) (h15 : f ≤ 15) : aF (s_drm E i) f j = if f = 14 ∨ f = 15 then ps i (aF E f (ph i j)) else aF E f (ph i j) := by
  have k : ∀ f, 8 ≤ f → f ≤ 15 → aF (s_dr E i) f j = aF E f (ph i j) := fun f h1 h2 => by
    rw [s_dr_aF]; unfold ph
    by_cases q : i ≤ j
    · rw [if_pos ⟨h1, h2, q⟩, if_neg (by omega)]
    · rw [if_neg (by omega), if_pos (by omega)]
  unfold s_drm
  rw [s_mv_aF, s_mv_aF, k f hf h15]
  unfold ps
  by_cases q14 : f = 14
  · subst q14
    rw [if_neg (by omega), if_pos (Or.inl rfl)]
    by_cases q : (i : Int) < aF E 14 (ph i j)
    · rw [if_pos ⟨rfl, hj, q⟩, if_pos q]
    · rw [if_neg (fun y => q y.2.2), if_neg q]
  · simp only [q14, false_and, if_false, false_or]
    by_cases q15 : f = 15
    · subst q15
      rw [if_pos rfl]
      by_cases q : (i : Int) < aF E 15 (ph i j)
      · rw [if_pos ⟨rfl, hj, q⟩, if_pos q]
      · rw [if_neg (fun y => q y.2.2), if_neg q]
    · simp only [q15, false_and, if_false]
theorem drm_lo {E : Ab} {i f j : Nat} (hf : f < 8) : aF (s_drm E i) f j = aF E f j := by
  unfold s_drm
  rw [s_mv_aF, s_mv_aF, s_dr_aF, if_neg (by omega), if_neg (by omega), if_neg (by omega)]
theorem drm_gst {E : Ab} {i : Nat} (hi : i < E.2.1) (h14 : aF E 14 i = -1) (h15 : aF E 15 i = -1) (hlo : ∀ m, m < E.2.1 → -1 ≤ aF E 14 m ∧ -1 ≤ aF E 15 m) (hno : ∀ m, m < E.2.1 → aF E 14 m ≠ i ∧ aF E 15 m ≠ i) (k : Nat) :
    ∀ m, m ≤ E.2.1 - 1 → s_gst (s_drm E i) k m = s_gst E (ph i k) (if m ≤ i then m else m + 1) := by
  have st : ∀ m, s_gst E (ph i k) (m + 1) = s_gst E (ph i k) m + (if aF E 14 m = ph i k then (s_sz E m + 1) / 2 else 0) + (if aF E 15 m = ph i k then s_sz E m / 2 else 0) := fun _ => rfl
  intro m
  induction m with
  | zero => intro _; rw [if_pos (Nat.zero_le _)]; rfl
  | succ m ih =>
    intro hm
    have hm1 : m < E.2.1 - 1 := by omega
    have hp := ph_lt (i := i) hm1
    have e14 : (aF (s_drm E i) 14 m = k) ↔ aF E 14 (ph i m) = ph i k := by
      rw [drm_aF hm1 (by decide) (by decide), if_pos (Or.inl rfl)]; exact ps_ph (hlo _ hp).1 (hno _ hp).1
    have e15 : (aF (s_drm E i) 15 m = k) ↔ aF E 15 (ph i m) = ph i k := by
      rw [drm_aF hm1 (by decide) (by decide), if_pos (Or.inr rfl)]; exact ps_ph (hlo _ hp).2 (hno _ hp).2
    have ez : s_sz (s_drm E i) m = s_sz E (ph i m) := by
      unfold s_sz; rw [drm_aF hm1 (by decide) (by decide), if_neg (by decide), drm_lo (by decide)]
    have t1 : s_gst (s_drm E i) k (m + 1) = s_gst (s_drm E i) k m + (if aF E 14 (ph i m) = ph i k then (s_sz E (ph i m) + 1) / 2 else 0) + (if aF E 15 (ph i m) = ph i k then s_sz E (ph i m) / 2 else 0) := by
      show s_gst (s_drm E i) k m + (if aF (s_drm E i) 14 m = k then (s_sz (s_drm E i) m + 1) / 2 else 0) + (if aF (s_drm E i) 15 m = k then s_sz (s_drm E i) m / 2 else 0) = _
      rw [ez]; simp only [e14, e15]
    rw [t1, ih (by omega)]
    rcases Nat.lt_trichotomy m i with q | q | q
    · have : ph i m = m := by unfold ph; rw [if_pos q]
      rw [this, if_pos (show m ≤ i by omega), if_pos (show m + 1 ≤ i by omega), st]
    · have : ph i m = m + 1 := by unfold ph; rw [if_neg (by omega)]
      rw [this, if_pos (show m ≤ i by omega), if_neg (show ¬ m + 1 ≤ i by omega), st (m + 1), st m, q, h14, h15, if_neg (show ¬ (-1 : Int) = ph i k by omega), if_neg (show ¬ (-1 : Int) = ph i k by omega)]
      simp only [Int.add_zero]
    · have : ph i m = m + 1 := by unfold ph; rw [if_neg (by omega)]
      rw [this, if_neg (show ¬ m ≤ i by omega), if_neg (show ¬ m + 1 ≤ i by omega), st (m + 1)]
theorem drm_ok {P : Nat} {E : Ab} {i : Nat} (hI : Inv P E) (hJ : InvF E) (hi : i < E.2.1) (h13 : aF E 13 i = -1) (h14 : aF E 14 i = -1) (hno : ∀ m, m < E.2.1 → aF E 14 m ≠ i ∧ aF E 15 m ≠ i) : Inv P (s_drm E i) ∧ InvF (s_drm E i) := by
  obtain ⟨B, hB⟩ : ∃ B, B = s_drm E i := ⟨_, rfl⟩
  have el : B.2.1 = E.2.1 - 1 := by rw [hB]; rfl
  have et : B.1 = E.1 := by rw [hB]; rfl
  have hI0 := hI
  obtain ⟨i1, i2, i3, i4, i5, i6⟩ := hI
  have h15 := (hJ.2.2.1 i hi).mp h14
  have lo : ∀ f j, f < 8 → aF B f j = aF E f j := fun f j hf => by rw [hB]; exact drm_lo hf
  have hi2 : ∀ f j, j < E.2.1 - 1 → 8 ≤ f → f ≤ 13 → aF B f j = aF E f (ph i j) := fun f j hj h1 h2 => by rw [hB, drm_aF hj h1 (by omega), if_neg (by omega)]
  have e14 : ∀ j, j < E.2.1 - 1 → aF B 14 j = ps i (aF E 14 (ph i j)) := fun j hj => by rw [hB, drm_aF hj (by decide) (by decide), if_pos (Or.inl rfl)]
  have e15 : ∀ j, j < E.2.1 - 1 → aF B 15 j = ps i (aF E 15 (ph i j)) := fun j hj => by rw [hB, drm_aF hj (by decide) (by decide), if_pos (Or.inr rfl)]
  have g := drm_gst hi h14 h15 (fun m hm => by have := i6 m hm; omega) hno
  rw [← hB] at g ⊢
  have psr : ∀ x : Int, -1 ≤ x → x < E.2.1 → x ≠ i → -1 ≤ ps i x ∧ ps i x < ((E.2.1 - 1 : Nat) : Int) ∧ (ps i x = -1 ↔ x = -1) := fun x a b c => by
    unfold ps; split <;> omega
  refine ⟨⟨by omega, by omega, i3, fun k hk => ?_, fun k hk => ?_, fun m hm => ?_⟩, ?_⟩
  · rw [lo 1 k (by decide), lo 2 k (by decide), lo 3 k (by decide), lo 4 k (by decide), lo 5 k (by decide)]; exact i4 k (by omega)
  · rw [lo 6 k (by decide), lo 7 k (by decide)]; exact i5 k hk
  · rw [el] at hm
    have hp := ph_lt (i := i) hm
    have q := i6 _ hp
    have a := psr _ q.2.2.2.2.2.2.2.2.2.2.2.2.1 q.2.2.2.2.2.2.2.2.2.2.2.2.2.1 (hno _ hp).1
    have b := psr _ q.2.2.2.2.2.2.2.2.2.2.2.2.2.2.1 q.2.2.2.2.2.2.2.2.2.2.2.2.2.2.2 (hno _ hp).2
    rw [hi2 8 m hm (by decide) (by decide), hi2 9 m hm (by decide) (by decide), hi2 10 m hm (by decide) (by decide), hi2 11 m hm (by decide) (by decide), hi2 12 m hm (by decide) (by decide), hi2 13 m hm (by decide) (by decide), e14 m hm, e15 m hm, et, el]
    omega
  · obtain ⟨j1, j2, j3, j4, j5⟩ := hJ
    have ew : ∀ (k : Nat) (z : Int), s_away B k z = s_away E k z := fun k z => by unfold s_away; rw [lo 5 k (by decide)]
    have eg : ∀ j, j < E.2.1 - 1 → s_gone B j = s_gone E (ph i j) := fun j hj => by
      unfold s_gone s_own; rw [ew, hi2 11 j hj (by decide) (by decide), hi2 8 j hj (by decide) (by decide)]
    have ea : ∀ j, j < E.2.1 - 1 → s_act B j = s_act E (ph i j) := fun j hj => by
      unfold s_act; rw [eg j hj, hi2 11 j hj (by decide) (by decide), hi2 13 j hj (by decide) (by decide)]
    refine ⟨fun x y hx hy hxy h8 => ?_, fun x hx h13 => ?_, fun x hx => ?_, fun x hx h14 => ?_, fun x hx => ?_⟩
    · rw [el] at hx hy
      rw [hi2 8 x hx (by decide) (by decide), hi2 8 y hy (by decide) (by decide)] at h8
      rw [hi2 9 x hx (by decide) (by decide), hi2 9 y hy (by decide) (by decide), hi2 11 x hx (by decide) (by decide), hi2 11 y hy (by decide) (by decide), hi2 12 x hx (by decide) (by decide), hi2 12 y hy (by decide) (by decide)]
      exact j1 _ _ (ph_lt hx) (ph_lt hy) (ph_ne hxy) h8
    · rw [el] at hx
      rw [hi2 13 x hx (by decide) (by decide)] at h13
      obtain ⟨m1, m2, m3, m4, m5, m6⟩ := j2 _ (ph_lt hx) h13
      rw [eg x hx, hi2 13 x hx (by decide) (by decide), hi2 11 x hx (by decide) (by decide), hi2 8 x hx (by decide) (by decide), e14 x hx, m4, ew, el]
      refine ⟨m1, m2, m3, by unfold ps; rw [if_neg (by omega)], fun j hj h8 => ?_, fun j hj hn h8 => ?_⟩
      · rw [hi2 8 j hj (by decide) (by decide)] at h8; rw [hi2 11 j hj (by decide) (by decide)]; exact m5 _ (ph_lt hj) h8
      · rw [hi2 8 j hj (by decide) (by decide)] at h8; rw [hi2 13 j hj (by decide) (by decide)]; exact m6 _ (ph_lt hj) (ph_ne hn) h8
    · rw [el] at hx
      have hp := ph_lt (i := i) hx
      have q := i6 _ hp
      have a := psr _ q.2.2.2.2.2.2.2.2.2.2.2.2.1 q.2.2.2.2.2.2.2.2.2.2.2.2.2.1 (hno _ hp).1
      have b := psr _ q.2.2.2.2.2.2.2.2.2.2.2.2.2.2.1 q.2.2.2.2.2.2.2.2.2.2.2.2.2.2.2 (hno _ hp).2
      rw [e14 x hx, e15 x hx, a.2.2, b.2.2]
      exact j3 _ hp
    · rw [el] at hx
      have hp := ph_lt (i := i) hx
      have q := i6 _ hp
      have a := psr _ q.2.2.2.2.2.2.2.2.2.2.2.2.1 q.2.2.2.2.2.2.2.2.2.2.2.2.2.1 (hno _ hp).1
      have b := psr _ q.2.2.2.2.2.2.2.2.2.2.2.2.2.2.1 q.2.2.2.2.2.2.2.2.2.2.2.2.2.2.2 (hno _ hp).2
      rw [e14 x hx] at h14
      have h14' : aF E 14 (ph i x) ≠ -1 := fun y => h14 (a.2.2.mpr y)
      have h15' : aF E 15 (ph i x) ≠ -1 := fun y => h14' ((j3 _ hp).mpr y)
      obtain ⟨m1, m2, m3, m4, m5, m6⟩ := j4 _ hp h14'
      have ra : (ps i (aF E 14 (ph i x))).toNat < E.2.1 - 1 := by omega
      have rb : (ps i (aF E 15 (ph i x))).toNat < E.2.1 - 1 := by
        have : ps i (aF E 15 (ph i x)) ≠ -1 := fun y => h15' (b.2.2.mp y)
        omega
      have pa := ph_ps (i := i) (n := E.2.1) (x := aF E 14 (ph i x)) (by omega) (hno _ hp).1
      have pb := ph_ps (i := i) (n := E.2.1) (x := aF E 15 (ph i x)) (by omega) (hno _ hp).2
      rw [eg x hx, e14 x hx, e15 x hx, hi2 8 _ ra (by decide) (by decide), hi2 8 _ rb (by decide) (by decide), hi2 8 x hx (by decide) (by decide), ea _ ra, ea _ rb, pa, pb]
      refine ⟨m1, fun y => m2 ?_, m3, m4, m5, m6⟩
      have n1 := (hno _ hp).1
      have n2 := (hno _ hp).2
      unfold ps at y
      split at y <;> split at y <;> omega
    · rw [el] at hx
      have ez : s_sz B x = s_sz E (ph i x) := by unfold s_sz; rw [hi2 9 x hx (by decide) (by decide), lo 6 _ (by decide)]
      have q := j5 _ (ph_lt (i := i) hx)
      unfold s_load at q ⊢
      have hg : s_gst B x (E.2.1 - 1) = s_gst E (ph i x) E.2.1 := by
        rw [g x (E.2.1 - 1) (Nat.le_refl _)]
        by_cases y : E.2.1 - 1 ≤ i
        · rw [if_pos y]
          obtain ⟨n, hn⟩ : ∃ n, E.2.1 = n + 1 := ⟨E.2.1 - 1, by omega⟩
          have e1 : n = i := by omega
          rw [hn, Nat.add_sub_cancel]
          show _ = s_gst E (ph i x) n + _ + _
          rw [e1, h14, h15, if_neg (show ¬ (-1 : Int) = ph i x by omega), if_neg (show ¬ (-1 : Int) = ph i x by omega)]
          omega
        · rw [if_neg y, show E.2.1 - 1 + 1 = E.2.1 by omega]
      rw [ez, el, hg, hi2 12 x hx (by decide) (by decide), lo 7 _ (by decide)]
      exact q
theorem drop_ok {P : Nat} {A : Ab} {i : Nat} (hI : Inv P A) (hJ : InvF A) (hP : P + 86 ≤ 10000000) (hi : i < A.2.1) : Inv (P + 86) (s_drop A i) ∧ InvF (s_drop A i) := by
  obtain ⟨a, -, c⟩ := s_eaw_I (i := i) hI (HO_of hJ) hP
  obtain ⟨l1, l2, l3⟩ := s_eaw_l hI hJ hP hi
  exact drm_ok a (InvF_eaw hI hJ hP) (by rw [c]; exact hi) l1 l2 (fun m hm => l3 m (by rw [← c]; exact hm))
theorem InvF_new : InvF s_new := ⟨fun _ _ h => absurd h (Nat.not_lt_zero _), fun _ h => absurd h (Nat.not_lt_zero _), fun _ h => absurd h (Nat.not_lt_zero _), fun _ h => absurd h (Nat.not_lt_zero _), fun _ h => absurd h (Nat.not_lt_zero _)⟩
