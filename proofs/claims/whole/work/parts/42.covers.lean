/-! THE CLASS: covers begun keep a school in order; a day's covers. -/
theorem s_find_no {A : Ab} {f : Nat} {s v : Int} (h : s_find A f s v = -1) : ∀ l, l < A.2.1 → aF A 8 l = s → aF A f l ≠ v := by
  intro l hl h8 hv
  unfold s_find at h
  rcases s_fst_spec (P := fun l => decide (aF A 8 l = s) && decide (aF A f l = v)) (n := A.2.1) with ⟨e, q⟩ | ⟨m, e, _, _⟩
  · have := q l hl
    simp [h8, hv] at this
  · rw [e] at h
    have : (m : Int) = -1 := h
    omega
theorem s_find_yes {A : Ab} {f : Nat} {s v : Int} (h : s_find A f s v ≠ -1) : (s_find A f s v).toNat < A.2.1 ∧ aF A 8 (s_find A f s v).toNat = s ∧ aF A f (s_find A f s v).toNat = v ∧ 0 ≤ s_find A f s v := by
  unfold s_find at h ⊢
  rcases s_fst_spec (P := fun l => decide (aF A 8 l = s) && decide (aF A f l = v)) (n := A.2.1) with ⟨e, q⟩ | ⟨m, e, h1, h2⟩
  · rw [e] at h; exact absurd rfl h
  · rw [e]
    have e2 : (s_oi (some m)).toNat = m := rfl
    rw [e2]
    simp only [Bool.and_eq_true, decide_eq_true_eq] at h2
    exact ⟨h1, h2.1, h2.2, Int.natCast_nonneg m⟩
theorem s_find_one {A : Ab} {f : Nat} {s v : Int} {l : Nat} (hl : l < A.2.1) (h8 : aF A 8 l = s) (hv : aF A f l = v) (hu : ∀ m, m < A.2.1 → aF A 8 m = s → aF A f m = v → m = l) : s_find A f s v = l := by
  by_cases e : s_find A f s v = -1
  · exact absurd hv (s_find_no e l hl h8)
  · obtain ⟨a, b, c, d⟩ := s_find_yes e
    have := hu _ a b c
    omega
theorem s_bar0 {A : Ab} {i t : Nat} (h : s_bar A i t = 0) : aF A 11 i ≠ t ∧ s_away A t (aF A 8 i) = false ∧ s_find A 11 (aF A 8 i) t = -1 ∧ s_find A 13 (aF A 8 i) t = -1 := by
  unfold s_bar at h
  by_cases c1 : aF A 11 i = t
  · rw [if_pos c1] at h; omega
  · rw [if_neg c1] at h
    by_cases c2 : s_away A t (aF A 8 i) = true
    · rw [if_pos c2] at h; omega
    · rw [if_neg c2] at h
      by_cases c3 : s_find A 11 (aF A 8 i) t = -1
      · rw [if_neg (by omega)] at h
        by_cases c4 : s_find A 13 (aF A 8 i) t = -1
        · exact ⟨c1, by simpa using c2, c3, c4⟩
        · rw [if_pos c4] at h; omega
      · rw [if_pos c3] at h; omega
theorem s_st3 {A : Ab} {i : Nat} (h : s_st A i = 3) : s_gone A i = true ∧ aF A 13 i = -1 ∧ aF A 14 i = -1 := by
  unfold s_st at h
  cases g : s_gone A i
  · rw [g, if_neg (by decide)] at h; omega
  · rw [g, if_pos rfl] at h
    by_cases c1 : aF A 13 i = -1
    · rw [if_neg (by omega)] at h
      by_cases c2 : aF A 14 i = -1
      · exact ⟨rfl, c1, c2⟩
      · rw [if_pos c2] at h; omega
    · rw [if_pos c1] at h; omega
theorem s_gst_of {A B : Ab} (h6 : ∀ c, aF B 6 c = aF A 6 c) : ∀ n, (∀ m, m < n → aF B 9 m = aF A 9 m ∧ aF B 14 m = aF A 14 m ∧ aF B 15 m = aF A 15 m) → ∀ i, s_gst B i n = s_gst A i n := by
  intro n
  induction n with
  | zero => intro _ i; rfl
  | succ n ih =>
    intro h i
    unfold s_gst s_sz
    obtain ⟨a, b, c⟩ := h n (by omega)
    rw [ih (fun m hm => h m (by omega)) i, a, b, c, h6]
theorem s_load_of {A B : Ab} (hl : B.2.1 = A.2.1) (h6 : ∀ c, aF B 6 c = aF A 6 c) (h : ∀ m, m < A.2.1 → aF B 9 m = aF A 9 m ∧ aF B 14 m = aF A 14 m ∧ aF B 15 m = aF A 15 m) {i : Nat} (hi : i < A.2.1) : s_load B i = s_load A i := by
  unfold s_load s_sz
  rw [hl, s_gst_of h6 A.2.1 h, (h i hi).1, h6]
theorem s_begin_aF (A : Ab) (i t f j : Nat) (hf : f ≠ 4) : aF (s_begin A i t) f j = if f = 13 ∧ j = i then (t : Int) else aF A f j := by
  unfold s_begin s_add
  rw [aF_ne _ (by omega), aF_aU]
theorem s_begin_I {P : Nat} {A : Ab} {i t : Nat} (hI : Inv P A) (ht : t < A.1) (hP : P + 6 ≤ 10000000) : Inv (P + 6) (s_begin A i t) := by
  have w := s_worth_r A i t
  exact Inv_add (B := 6) (Inv_13 hI (by omega)) (by omega) hP
theorem s_begin_J {A : Ab} {i t : Nat} (hJ : InvF A) (hi : i < A.2.1) (h3 : s_st A i = 3) (hb : s_bar A i t = 0) : InvF (s_begin A i t) := by
  obtain ⟨g, z13, z14⟩ := s_st3 h3
  obtain ⟨b1, b2, b3, b4⟩ := s_bar0 hb
  have f3 := s_find_no b3
  have f4 := s_find_no b4
  obtain ⟨j1, j2, j3, j4, j5⟩ := hJ
  have e := s_begin_aF A i t
  have e8 : ∀ j, aF (s_begin A i t) 8 j = aF A 8 j := fun j => by rw [e 8 j (by decide), if_neg (by omega)]
  have e9 : ∀ j, aF (s_begin A i t) 9 j = aF A 9 j := fun j => by rw [e 9 j (by decide), if_neg (by omega)]
  have e11 : ∀ j, aF (s_begin A i t) 11 j = aF A 11 j := fun j => by rw [e 11 j (by decide), if_neg (by omega)]
  have e12 : ∀ j, aF (s_begin A i t) 12 j = aF A 12 j := fun j => by rw [e 12 j (by decide), if_neg (by omega)]
  have e14 : ∀ j, aF (s_begin A i t) 14 j = aF A 14 j := fun j => by rw [e 14 j (by decide), if_neg (by omega)]
  have e15 : ∀ j, aF (s_begin A i t) 15 j = aF A 15 j := fun j => by rw [e 15 j (by decide), if_neg (by omega)]
  have e13 : ∀ j, aF (s_begin A i t) 13 j = if j = i then (t : Int) else aF A 13 j := fun j => by
    rw [e 13 j (by decide)]; by_cases q : j = i <;> simp [q]
  have e5 : ∀ j, aF (s_begin A i t) 5 j = aF A 5 j := fun j => by rw [e 5 j (by decide), if_neg (by omega)]
  have e6 : ∀ j, aF (s_begin A i t) 6 j = aF A 6 j := fun j => by rw [e 6 j (by decide), if_neg (by omega)]
  have e7 : ∀ j, aF (s_begin A i t) 7 j = aF A 7 j := fun j => by rw [e 7 j (by decide), if_neg (by omega)]
  have eg : ∀ j, s_gone (s_begin A i t) j = s_gone A j := fun j => s_gone_of e5 (e8 j) (e11 j)
  have ew : ∀ k s, s_away (s_begin A i t) k s = s_away A k s := fun k s => by unfold s_away; rw [e5]
  have el : (s_begin A i t).2.1 = A.2.1 := rfl
  have ea : ∀ j, s_act A j ≠ -1 → s_act (s_begin A i t) j ≠ -1 := by
    intro j hj
    unfold s_act at hj ⊢
    rw [eg, e11, e13]
    by_cases q : j = i
    · subst q
      rw [g, if_pos rfl] at hj
      exact absurd z13 hj
    · rw [if_neg q]; exact hj
  refine ⟨?_, ?_, ?_, ?_, ?_⟩
  · intro a b ha hb' hab h8
    rw [el] at ha hb'
    rw [e8, e8] at h8
    rw [e9, e9, e11, e11, e12, e12]
    exact j1 a b ha hb' hab h8
  · intro a ha h13
    rw [el] at ha
    rw [el, eg, e11, e8, e14, ew]
    rw [e13] at h13 ⊢
    by_cases q : a = i
    · subst q
      rw [if_pos rfl]
      refine ⟨g, fun y => b1 y.symm, by simpa using b2, z14, fun j hj h8 => ?_, fun j hj hne h8 => ?_⟩
      · rw [e11]; rw [e8] at h8; exact f3 j hj h8
      · rw [e13, if_neg hne]; rw [e8] at h8; exact f4 j hj h8
    · rw [if_neg q] at h13 ⊢
      obtain ⟨k1, k2, k3, k4, k5, k6⟩ := j2 a ha h13
      refine ⟨k1, k2, k3, k4, fun j hj h8 => ?_, fun j hj hne h8 => ?_⟩
      · rw [e11]; rw [e8] at h8; exact k5 j hj h8
      · rw [e8] at h8
        rw [e13]
        by_cases q2 : j = i
        · subst q2
          rw [if_pos rfl]
          exact fun y => f4 a ha h8.symm y.symm
        · rw [if_neg q2]; exact k6 j hj hne h8
  · intro a ha
    rw [e14, e15]
    exact j3 a ha
  · intro a ha h14
    rw [e14] at h14
    obtain ⟨k1, k2, k3, k4, k5, k6⟩ := j4 a ha h14
    rw [eg, e14, e15, e8, e8, e8]
    exact ⟨k1, k2, k3, k4, ea _ k5, ea _ k6⟩
  · intro a ha
    rw [el] at ha
    rw [e12, e7, s_load_of el e6 (fun m _ => ⟨e9 m, e14 m, e15 m⟩) ha]
    exact j5 a ha
theorem s_best_bar {A : Ab} {i : Nat} : ∀ {n : Nat}, s_best A i n ≠ -1 → s_bar A i (s_best A i n).toNat = 0 ∧ (s_best A i n).toNat < n := by
  intro n
  induction n with
  | zero => intro h; exact absurd rfl h
  | succ n ih =>
    intro h
    unfold s_best at h ⊢
    by_cases c : s_bar A i n = 0 ∧ (s_best A i n = -1 ∨ s_btr A i n (s_best A i n).toNat = true)
    · rw [if_pos c]
      exact ⟨c.1, by omega⟩
    · rw [if_neg c] at h ⊢
      obtain ⟨a, b⟩ := ih h
      exact ⟨a, by omega⟩
/-- a lesson is covered by the best, if there is one -/
def s_cv (B : Ab) (j : Nat) : Ab := if s_best B j B.1 = -1 then B else s_begin B j (s_best B j B.1).toNat
def s_cvn (B : Ab) (j : Nat) : Nat := if s_best B j B.1 = -1 then 0 else 1
def s_cvs : Ab → List Nat → Ab × Nat
  | A, [] => (A, 0)
  | A, j :: L => ((s_cvs (s_cv A j) L).1, s_cvn A j + (s_cvs (s_cv A j) L).2)
theorem s_cvs_app (j : Nat) : ∀ (L : List Nat) (A : Ab), s_cvs A (L ++ [j]) = (s_cv (s_cvs A L).1 j, (s_cvs A L).2 + s_cvn (s_cvs A L).1 j) := by
  intro L
  induction L with
  | nil => intro A; show (s_cv A j, s_cvn A j + 0) = (s_cv A j, 0 + s_cvn A j); rw [Nat.add_zero, Nat.zero_add]
  | cons k L ih =>
    intro A
    show ((s_cvs (s_cv A k) (L ++ [j])).1, s_cvn A k + (s_cvs (s_cv A k) (L ++ [j])).2) = _
    rw [ih]
    show _ = (s_cv (s_cvs (s_cv A k) L).1 j, s_cvn A k + (s_cvs (s_cv A k) L).2 + s_cvn (s_cvs (s_cv A k) L).1 j)
    rw [Nat.add_assoc]
theorem s_cv_ok {P : Nat} {A : Ab} {j : Nat} (hI : Inv P A) (hJ : InvF A) (hj : j < A.2.1) (h3 : s_st A j = 3) (hP : P + 6 ≤ 10000000) : Inv (P + 6) (s_cv A j) ∧ InvF (s_cv A j) ∧ (s_cv A j).1 = A.1 ∧ (s_cv A j).2.1 = A.2.1 ∧ ∀ f m, f ≠ 4 → ¬ (f = 13 ∧ m = j) → aF (s_cv A j) f m = aF A f m := by
  unfold s_cv
  split
  · exact ⟨Inv_mono hI (by omega) hP, hJ, rfl, rfl, fun f m _ _ => rfl⟩
  · next c =>
    obtain ⟨a, b⟩ := s_best_bar c
    exact ⟨s_begin_I hI b hP, s_begin_J hJ hj h3 a, rfl, rfl, fun f m hf hm => by rw [s_begin_aF _ _ _ _ _ hf, if_neg hm]⟩
theorem s_st_of {A B : Ab} {i : Nat} (h5 : ∀ t, aF B 5 t = aF A 5 t) (h8 : aF B 8 i = aF A 8 i) (h11 : aF B 11 i = aF A 11 i) (h13 : aF B 13 i = aF A 13 i) (h14 : aF B 14 i = aF A 14 i) : s_st B i = s_st A i := by
  unfold s_st; rw [s_gone_of h5 h8 h11, h13, h14]
theorem s_cvs_ok : ∀ (L : List Nat) {P : Nat} {A : Ab}, Inv P A → InvF A → (∀ m, m ∈ L → m < A.2.1 ∧ s_st A m = 3) → L.Nodup → P + 6 * L.length ≤ 10000000 → Inv (P + 6 * L.length) (s_cvs A L).1 ∧ InvF (s_cvs A L).1 ∧ (s_cvs A L).1.1 = A.1 ∧ (s_cvs A L).1.2.1 = A.2.1 ∧ (∀ f m, f ≠ 4 → ¬ (f = 13 ∧ m ∈ L) → aF (s_cvs A L).1 f m = aF A f m) ∧ (s_cvs A L).2 ≤ L.length := by
  intro L
  induction L with
  | nil => intro P A hI hJ _ _ hP; exact ⟨hI, hJ, rfl, rfl, fun f m _ _ => rfl, Nat.le_refl _⟩
  | cons j L ih =>
    intro P A hI hJ hm hN hP
    rw [List.nodup_cons] at hN
    rw [List.length_cons] at hP ⊢
    obtain ⟨a, b, c, d, e⟩ := s_cv_ok hI hJ (hm j List.mem_cons_self).1 (hm j List.mem_cons_self).2 (by omega)
    obtain ⟨a', b', c', d', e', f'⟩ := ih a b (fun m hm' => by
      have hne : m ≠ j := fun y => hN.1 (y ▸ hm')
      obtain ⟨p, q⟩ := hm m (List.mem_cons_of_mem _ hm')
      exact ⟨by rw [d]; exact p, by rw [s_st_of (fun t => e 5 t (by decide) (by omega)) (e 8 m (by decide) (by omega)) (e 11 m (by decide) (by omega)) (e 13 m (by decide) (by omega)) (e 14 m (by decide) (by omega))]; exact q⟩) hN.2 (by omega)
    refine ⟨by rw [show P + 6 * (L.length + 1) = P + 6 + 6 * L.length by omega]; exact a', b', c'.trans c, d'.trans d, fun f m hf hn => ?_, ?_⟩
    · rw [show aF (s_cvs A (j :: L)).1 f m = aF (s_cvs (s_cv A j) L).1 f m from rfl, e' f m hf (fun y => hn ⟨y.1, List.mem_cons_of_mem _ y.2⟩), e f m hf (fun y => hn ⟨y.1, y.2 ▸ List.mem_cons_self⟩)]
    · show s_cvn A j + (s_cvs (s_cv A j) L).2 ≤ L.length + 1
      have : s_cvn A j ≤ 1 := by unfold s_cvn; split <;> omega
      omega
theorem s_opp_nd {A : Ab} {s : Int} : ∀ n, (s_opp A s n).Nodup := by
  intro n
  induction n with
  | zero => exact List.nodup_nil
  | succ n ih =>
    unfold s_opp
    rw [List.nodup_append]
    refine ⟨ih, by split <;> simp, fun a ha b hb e => ?_⟩
    have h1 := (s_opp_mem.mp ha).1
    split at hb
    · have : b = n := by simpa using hb
      omega
    · cases hb
theorem s_opa_nd {A : Ab} {d : Nat} : ∀ p j, (s_opa A d p j).Nodup := by
  intro p
  have key : (s_opl A d p).Nodup := by
    induction p with
    | zero => exact List.nodup_nil
    | succ p ih =>
      unfold s_opl
      rw [List.nodup_append]
      refine ⟨ih, s_opp_nd _, fun a ha b hb e => ?_⟩
      subst e
      obtain ⟨-, -, q, h1, h2⟩ := s_opl_mem.mp ha
      have h3 := (s_opp_mem.mp hb).2.1
      omega
  intro j
  unfold s_opa
  rw [List.nodup_append]
  refine ⟨key, s_opp_nd _, fun a ha b hb e => ?_⟩
  subst e
  obtain ⟨-, -, q, h1, h2⟩ := s_opl_mem.mp ha
  have h3 := (s_opp_mem.mp hb).2.1
  omega
theorem s_opa_mem {A : Ab} {d p j m : Nat} (hj : j ≤ A.2.1) (h : m ∈ s_opa A d p j) : m < A.2.1 ∧ s_st A m = 3 := by
  unfold s_opa at h
  rcases List.mem_append.mp h with q | q
  · have := s_opl_mem.mp q; exact ⟨this.1, this.2.1⟩
  · have := s_opp_mem.mp q; exact ⟨by omega, this.2.2⟩
theorem s_opa_no {A : Ab} {d p j : Nat} (h8 : aF A 8 j = (6 * d + p : Nat)) : j ∉ s_opa A d p j := by
  unfold s_opa
  intro h
  rcases List.mem_append.mp h with q | q
  · obtain ⟨-, -, q, h1, h2⟩ := s_opl_mem.mp q; omega
  · have := (s_opp_mem.mp q).1; omega
theorem s_opa_len {A : Ab} {d p j : Nat} (i2 : A.2.1 ≤ 40) (hp : p ≤ 5) (hj : j ≤ A.2.1) : (s_opa A d p j).length ≤ 240 := by
  have ln1 := s_opl_len A d p
  have ln2 := s_opp_len A (6 * d + p : Nat) j
  have ln4 : p * A.2.1 ≤ 5 * 40 := Nat.mul_le_mul hp i2
  unfold s_opa
  rw [List.length_append]
  omega
