/-! The reference's ends are the class's: equalities. -/
theorem H3_of {A : Ab} (hJ : InvF A) : H3 A := hJ.2.2.1
theorem esw_cg {s1 s2 : Ab → Nat → Bool} (h1 : s_swl s1) (h2 : s_swl s2) {A : Ab} : ∀ n, (∀ m, m < n → s1 A m = s2 A m) → s_esw s1 A n = s_esw s2 A n := by
  intro n
  induction n with
  | zero => intro _; rfl
  | succ n ih =>
    intro h
    have e := ih (fun m hm => h m (by omega))
    have l1 : s1 (s_esw s1 A n).1 n = s1 A n := h1 _ _ n (by rw [s_esw_aF h1 A n 14 n (by decide), if_neg (by omega)]) (by rw [s_esw_aF h1 A n 15 n (by decide), if_neg (by omega)])
    have l2 : s2 (s_esw s2 A n).1 n = s2 A n := h2 _ _ n (by rw [s_esw_aF h2 A n 14 n (by decide), if_neg (by omega)]) (by rw [s_esw_aF h2 A n 15 n (by decide), if_neg (by omega)])
    have q := h n (by omega)
    by_cases y : s1 A n = true
    · rw [s_esw_t (by rw [l1]; exact y), s_esw_t (by rw [l2, ← q]; exact y), e]
    · rw [s_esw_f (by rw [l1]; exact y), s_esw_f (by rw [l2, ← q]; exact y), e]
theorem esw_no {sw : Ab → Nat → Bool} (hs : s_swl sw) {A : Ab} (n : Nat) (h : ∀ m, m < n → sw A m = false) : s_esw sw A n = (A, 0) := by
  induction n with
  | zero => rfl
  | succ n ih =>
    have e := ih (fun m hm => h m (by omega))
    rw [s_esw_f (by rw [e]; show ¬ sw A n = true; rw [h n (by omega)]; decide), e]
theorem esw_one {sw : Ab → Nat → Bool} (hs : s_swl sw) {A : Ab} {l : Nat} : ∀ n, (∀ m, m < n → sw A m = decide (m = l)) → s_esw sw A n = if l < n then (s_ends A l, 1) else (A, 0) := by
  intro n
  induction n with
  | zero => intro _; rfl
  | succ n ih =>
    intro h
    have e := ih (fun m hm => h m (by omega))
    have l1 : sw (s_esw sw A n).1 n = sw A n := hs _ _ n (by rw [s_esw_aF hs A n 14 n (by decide), if_neg (by omega)]) (by rw [s_esw_aF hs A n 15 n (by decide), if_neg (by omega)])
    have q := h n (by omega)
    by_cases y : n = l
    · rw [s_esw_t (by rw [l1, q]; exact decide_eq_true y), e, if_neg (by omega), if_pos (by omega), y]
    · rw [s_esw_f (by rw [l1, q]; simpa using y), e]
      by_cases z : l < n
      · rw [if_pos z, if_pos (by omega)]
      · rw [if_neg z, if_neg (by omega)]
theorem aU_id {A : Ab} {f j : Nat} {v : Int} (h : v = aF A f j) : aU A f j v = A :=
  Ab_ext rfl rfl fun a b => by
    rw [aF_aU]
    by_cases q : a = f ∧ b = j
    · rw [if_pos q, h, q.1, q.2]
    · rw [if_neg q]
def nohost (A : Ab) (l : Nat) : Prop := ∀ m, m < A.2.1 → aF A 14 m ≠ l ∧ aF A 15 m ≠ l
theorem nohost_act {A : Ab} (hJ : InvF A) {l : Nat} (ha : s_act A l = -1) : nohost A l := by
  intro m hm
  have e3 := hJ.2.2.1 m hm
  constructor
  · intro y
    have := (hJ.2.2.2.1 m hm (by omega)).2.2.2.2.1
    rw [y, Int.toNat_natCast] at this
    exact this ha
  · intro y
    have := (hJ.2.2.2.1 m hm (fun z => by have := e3.mp z; omega)).2.2.2.2.2
    rw [y, Int.toNat_natCast] at this
    exact this ha
theorem sw_h {A : Ab} (h3 : H3 A) {l : Nat} (h14 : aF A 14 l = -1) : ∀ m, m < A.2.1 → s_swi l A m = s_swh l A m := by
  intro m hm
  have e3 := h3 m hm
  unfold s_swi s_sw s_swh
  by_cases q : m = l
  · subst q
    have h15 := e3.mp h14
    rw [h14, h15, decide_eq_false (show ¬ (-1 : Int) = m by omega)]
    simp
  · by_cases y : aF A 14 m = -1
    · have h15 := e3.mp y
      rw [y, h15, decide_eq_false (show ¬ (-1 : Int) = l by omega)]
      simp
    · simp [y, q]
theorem e1_h1 {A : Ab} (h3 : H3 A) {l : Nat} (h14 : aF A 14 l = -1) : s_e1 A l = s_h1 A l ∧ (s_esw (s_swi l) A A.2.1).2 = s_h1n A l := by
  have e := esw_cg (s_swi_l l) (s_swh_l l) (A := A) A.2.1 (sw_h h3 h14)
  unfold s_e1 s_h1 s_h1n
  rw [e]
  exact ⟨rfl, rfl⟩
theorem endc_no {A : Ab} {l : Nat} (h : aF A 13 l = -1) : s_endc A l = A ∧ s_ecn A l = 0 := by
  unfold s_endc s_ecn; rw [if_pos h, if_pos h]; exact ⟨rfl, rfl⟩
theorem h1_eaw {A : Ab} (h3 : H3 A) {l : Nat} (h13 : aF A 13 l = -1) (h14 : aF A 14 l = -1) : s_h1 A l = s_eaw A l ∧ s_h1n A l = s_ean A l := by
  obtain ⟨a, b⟩ := e1_h1 h3 h14
  obtain ⟨c, d⟩ := endc_no (A := s_h1 A l) (l := l) (by rw [s_h1_13]; exact h13)
  unfold s_eaw s_ean
  rw [a, b, c, d, aU_id (by omega)]
  exact ⟨rfl, rfl⟩
theorem eall_13 {A : Ab} (h3 : H3 A) {l : Nat} (h13 : aF A 13 l ≠ -1) (h14 : aF A 14 l = -1) : s_eall A l = s_eaw A l ∧ s_ealn A l = s_ean A l := by
  obtain ⟨a, b⟩ := e1_h1 h3 h14
  have d : s_ecn (s_h1 A l) l = 1 := by unfold s_ecn; rw [if_neg (by rw [s_h1_13]; exact h13)]
  unfold s_eall s_ealn s_eaw s_ean
  rw [if_pos h13, if_pos h13, a, b, d]
  exact ⟨rfl, by omega⟩
theorem ends_13 (A : Ab) (l : Nat) : aF (s_ends A l) 13 l = aF A 13 l := by rw [s_ends_aF _ _ 13 _ (by decide), if_neg (by omega)]
theorem eall_14 {A : Ab} (h3 : H3 A) {l : Nat} (hl : l < A.2.1) (h13 : aF A 13 l = -1) (h14 : aF A 14 l ≠ -1) (hn : nohost A l) : s_eall A l = s_eaw A l ∧ s_ealn A l = s_ean A l := by
  have e := esw_one (s_swi_l l) (A := A) (l := l) A.2.1 (fun m hm => by
    obtain ⟨n1, n2⟩ := hn m hm
    unfold s_swi s_sw
    by_cases q : m = l
    · subst q; simp [h14]
    · simp [q, n1, n2])
  rw [if_pos hl] at e
  have e1 : s_e1 A l = aU (s_ends A l) 0 3 (aF (s_ends A l) 0 3 + 1) := by unfold s_e1; rw [e]; rfl
  have e13 : aF (s_e1 A l) 13 l = -1 := by rw [e1, aF_ne _ (by omega), ends_13]; exact h13
  obtain ⟨c, d⟩ := endc_no e13
  unfold s_eall s_ealn s_eaw s_ean
  rw [if_neg (fun y => y h13), if_pos h14, if_neg (fun y => y h13), if_pos h14, c, d, e1, e, aU_id (f := 0) (j := 2) (by omega)]
  exact ⟨rfl, rfl⟩
theorem h1_no {A : Ab} {l : Nat} (hn : nohost A l) : s_h1 A l = A ∧ s_h1n A l = 0 := by
  have e := esw_no (s_swh_l l) (A := A) A.2.1 (fun m hm => by
    obtain ⟨n1, n2⟩ := hn m hm
    unfold s_swh; simp [n1, n2])
  unfold s_h1 s_h1n
  rw [e]
  exact ⟨aU_id (A := A) (Int.add_zero (aF A 0 3)), rfl⟩
theorem eall_no {A : Ab} (h3 : H3 A) {l : Nat} (h13 : aF A 13 l = -1) (h14 : aF A 14 l = -1) (hn : nohost A l) : s_eall A l = s_eaw A l ∧ s_ealn A l = s_ean A l := by
  obtain ⟨a, b⟩ := h1_eaw h3 h13 h14
  obtain ⟨c, d⟩ := h1_no hn
  rw [← a, ← b, c, d]
  unfold s_eall s_ealn
  rw [if_neg (fun y => y h13), if_neg (fun y => y h14), if_neg (fun y => y h13), if_neg (fun y => y h14)]
  exact ⟨rfl, rfl⟩
/-- all ends with a lesson whose teacher is away, or that is covered -/
theorem eall_gone {A : Ab} (hJ : InvF A) {l : Nat} (hl : l < A.2.1) (hg : s_gone A l = true) : s_eall A l = s_eaw A l ∧ s_ealn A l = s_ean A l := by
  have h3 := H3_of hJ
  by_cases h13 : aF A 13 l = -1
  · have hn : nohost A l := nohost_act hJ (by unfold s_act; rw [hg]; exact h13)
    by_cases h14 : aF A 14 l = -1
    · exact eall_no h3 h13 h14 hn
    · exact eall_14 h3 hl h13 h14 hn
  · exact eall_13 h3 h13 (hJ.2.1 l hl h13).2.2.2.1
theorem h1_eall {P : Nat} {A : Ab} (hI : Inv P A) (hJ : InvF A) (hP : P + 86 ≤ 10000000) {l : Nat} (hl : l < A.2.1) : s_eall (s_h1 A l) l = s_eaw A l := by
  have h3 := H3_of hJ
  by_cases h14 : aF A 14 l = -1
  · by_cases h13 : aF A 13 l = -1
    · obtain ⟨a, -⟩ := h1_eaw h3 h13 h14
      rw [a]
      obtain ⟨l1, l2, -⟩ := s_eaw_l hI hJ hP hl
      unfold s_eall
      rw [if_neg (fun y => y l1), if_neg (fun y => y l2)]
    · obtain ⟨a, b⟩ := e1_h1 h3 h14
      have e13 : aF (s_h1 A l) 13 l ≠ -1 := by rw [s_h1_13]; exact h13
      have hn : nohost (s_h1 A l) l := by
        rw [← a]
        have el : (s_e1 A l).2.1 = A.2.1 := (s_e1_I hI (HO_of hJ) (by omega)).2.2
        intro m hm
        exact s_e1_no hJ m (by rw [← el]; exact hm)
      obtain ⟨c, -⟩ := h1_no hn
      have d : s_ecn (s_h1 A l) l = 1 := by unfold s_ecn; rw [if_neg e13]
      unfold s_eall s_eaw
      rw [if_pos e13, c, a, d]
      rfl
  · have h13 : aF A 13 l = -1 := Decidable.byContradiction fun y => h14 (hJ.2.1 l hl y).2.2.2.1
    have hg := (hJ.2.2.2.1 l hl h14).1
    have hn : nohost A l := nohost_act hJ (by unfold s_act; rw [hg]; exact h13)
    rw [(h1_no hn).1]
    exact (eall_14 h3 hl h13 h14 hn).1
/-- the reference's turn of an absence -/
def m_t1 (A : Ab) (b : Bool) (own : Int) : Ab := if own = -1 then A else if b then s_h1 A own.toNat else s_eall A own.toNat
def m_t1n (A : Ab) (b : Bool) (own : Int) : Nat := if own = -1 then 0 else if b then s_h1n A own.toNat else s_ealn A own.toNat
def m_t2 (A : Ab) (b : Bool) (cov : Int) : Ab := if cov = -1 then A else if b then s_eall A cov.toNat else A
def m_t2n (A : Ab) (b : Bool) (cov : Int) : Nat := if cov = -1 then 0 else if b then s_ealn A cov.toNat else 0
theorem fnd_cg {P Q : Nat → Bool} : ∀ L : List Nat, (∀ m, m ∈ L → P m = Q m) → L.find? P = L.find? Q := by
  intro L
  induction L with
  | nil => intro _; rfl
  | cons a L ih =>
    intro h
    rw [List.find?_cons, List.find?_cons, h a List.mem_cons_self, ih (fun m hm => h m (List.mem_cons_of_mem _ hm))]
theorem find_cg {A B : Ab} {f : Nat} {s v : Int} (hl : B.2.1 = A.2.1) (h : ∀ m, m < A.2.1 → aF B 8 m = aF A 8 m ∧ (aF B f m = v ↔ aF A f m = v)) : s_find B f s v = s_find A f s v := by
  unfold s_find
  rw [hl]
  congr 1
  unfold s_fst
  refine fnd_cg _ (fun m hm => ?_)
  obtain ⟨a, b⟩ := h m (List.mem_range.mp hm)
  rw [a]
  simp only [b]
theorem turn_t1 {P : Nat} {A : Ab} {t s : Nat} {b : Bool} (hI : Inv P A) (hJ : InvF A) (hw : s_away A t s = !b) : m_t1 A b (s_find A 11 s t) = s_t1 A t s ∧ m_t1n A b (s_find A 11 s t) = s_en A (s_find A 11 s t) := by
  unfold m_t1 m_t1n s_t1 s_ei s_en
  by_cases q : s_find A 11 s t = -1
  · rw [if_pos q, if_pos q, if_pos q, if_pos q]; exact ⟨rfl, rfl⟩
  · rw [if_neg q, if_neg q, if_neg q, if_neg q]
    obtain ⟨k1, k2, k3, k4⟩ := s_find_yes q
    have hg : s_gone A (s_find A 11 s t).toNat = !b := by
      unfold s_gone s_own; rw [k2, k3]; exact hw
    cases b with
    | true =>
      have h13 : aF A 13 (s_find A 11 s t).toNat = -1 := Decidable.byContradiction fun y => by
        have := (hJ.2.1 _ k1 y).1; rw [hg] at this; cases this
      have h14 : aF A 14 (s_find A 11 s t).toNat = -1 := Decidable.byContradiction fun y => by
        have := (hJ.2.2.2.1 _ k1 y).1; rw [hg] at this; cases this
      exact h1_eaw (H3_of hJ) h13 h14
    | false => exact eall_gone hJ k1 hg
theorem turn_t2 {P : Nat} {A : Ab} {t s : Nat} {b : Bool} (hI : Inv P A) (hJ : InvF A) (hP : P + 172 ≤ 10000000) (hw : s_away A t s = !b) : m_t2 (s_t1 A t s) b (s_find A 13 s t) = s_t2 A t s ∧ m_t2n (s_t1 A t s) b (s_find A 13 s t) = s_en (s_t1 A t s) (s_find (s_t1 A t s) 13 s t) := by
  obtain ⟨a1, a2, a3, a4, a5, a6, a7⟩ := s_ei_ok (x := s_find A 11 s t) hI hJ (by omega)
  have eB : s_ei A (s_find A 11 s t) = s_t1 A t s := rfl
  rw [eB] at a1 a2 a3 a4 a5 a6 a7
  rw [show s_t2 A t s = s_ei (s_t1 A t s) (s_find (s_t1 A t s) 13 s t) from rfl]
  generalize s_t1 A t s = B at *
  have ef : s_find B 13 s t = s_find A 13 s t ∨ (s_find B 13 s t = -1 ∧ b = false) := by
    cases b with
    | true =>
      left
      refine find_cg a4 (fun m hm => ⟨a5 8 m (by decide), ?_⟩)
      rcases a6 13 m hm (Or.inl rfl) with y | y
      · rw [y]
      · constructor
        · intro z; omega
        · intro z
          exfalso
          -- only the teacher's own lesson can lose its cover, and that is taught
          have hne : aF A 13 m ≠ -1 := by omega
          by_cases q : s_find A 11 s t = -1
          · have : B = A := by rw [← eB]; unfold s_ei; rw [if_pos q]
            rw [this] at y; exact hne y
          · obtain ⟨k1, k2, k3, k4⟩ := s_find_yes q
            have hg : s_gone A (s_find A 11 s t).toNat = false := by
              unfold s_gone s_own; rw [k2, k3]; exact hw
            have h13 : aF A 13 (s_find A 11 s t).toNat = -1 := Decidable.byContradiction fun y => by
              have := (hJ.2.1 _ k1 y).1; rw [hg] at this; cases this
            have y2 : aF B 13 m = aF A 13 m := by
              rw [← eB]; unfold s_ei; rw [if_neg q, s_eaw_aF A _ 13 m (by decide) (by decide) hm, if_neg (by omega)]
              by_cases y3 : m = (s_find A 11 s t).toNat
              · rw [if_pos ⟨rfl, y3⟩, y3, h13]
              · rw [if_neg (fun y => y3 y.2)]
            omega
    | false =>
      right
      refine ⟨?_, rfl⟩
      by_cases q : s_find B 13 s t = -1
      · exact q
      · obtain ⟨k1, k2, k3, k4⟩ := s_find_yes q
        have := (a2.2.1 _ k1 (by rw [k3]; omega)).2.2.1
        rw [k2, k3, Int.toNat_natCast] at this
        have e5 : s_away B t s = s_away A t s := by unfold s_away; rw [a5 5 t (by decide)]
        rw [e5, hw] at this
        cases this
  unfold m_t2 m_t2n
  unfold s_ei s_en
  rcases ef with ef | ⟨ef, eb⟩
  · rw [ef]
    by_cases q : s_find A 13 s t = -1
    · rw [if_pos q, if_pos q, if_pos q, if_pos q]; exact ⟨rfl, rfl⟩
    · rw [if_neg q, if_neg q, if_neg q, if_neg q]
      cases b with
      | true =>
        rw [← ef] at q ⊢
        obtain ⟨k1, k2, k3, k4⟩ := s_find_yes q
        have h13 : aF B 13 (s_find B 13 s t).toNat ≠ -1 := by rw [k3]; omega
        exact eall_13 (H3_of a2) h13 (a2.2.1 _ k1 h13).2.2.2.1
      | false =>
        obtain ⟨k1, k2, k3, k4⟩ := s_find_yes q
        have := (hJ.2.1 _ k1 (by rw [k3]; omega)).2.2.1
        rw [k2, k3, Int.toNat_natCast, hw] at this
        cases this
  · rw [ef, eb, if_pos rfl, if_pos rfl]
    by_cases q : s_find A 13 s t = -1
    · rw [if_pos q, if_pos q]; exact ⟨rfl, rfl⟩
    · rw [if_neg q, if_neg q]; exact ⟨rfl, rfl⟩
