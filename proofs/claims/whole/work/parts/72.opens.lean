/-! The open lessons of a day: their number. -/
theorem s_opp_cnt (A : Ab) (s : Int) : ∀ n, (s_opp A s n).length = s_cnt (fun j => decide (s_st A j = 3) && decide (aF A 8 j = s)) n := by
  intro n
  induction n with
  | zero => rfl
  | succ n ih =>
    unfold s_opp s_cnt
    rw [List.length_append, ih]
    by_cases q : aF A 8 n = s ∧ s_st A n = 3
    · rw [if_pos q, if_pos (by simp [q.1, q.2])]; rfl
    · rw [if_neg q, if_neg (by simp; intro y z; exact q ⟨z, y⟩)]; rfl
theorem s_opl_cnt {A : Ab} {d : Nat} : ∀ p, (s_opl A d p).length = s_cnt (fun j => (decide (s_st A j = 3) && decide ((6 * d : Nat) ≤ aF A 8 j)) && decide (aF A 8 j < (6 * d + p : Nat))) A.2.1 := by
  intro p
  induction p with
  | zero =>
    show 0 = _
    have : s_cnt (fun j => (decide (s_st A j = 3) && decide ((6 * d : Nat) ≤ aF A 8 j)) && decide (aF A 8 j < (6 * d + 0 : Nat))) A.2.1 = s_cnt (fun _ => false) A.2.1 := by
      refine s_cnt_congr fun j _ => ?_
      by_cases q : ((6 * d : Nat) : Int) ≤ aF A 8 j
      · rw [decide_eq_false (p := aF A 8 j < (6 * d + 0 : Nat)) (by omega), Bool.and_false]
      · rw [decide_eq_false q, Bool.and_false, Bool.false_and]
    rw [this]
    have z : ∀ n, s_cnt (fun _ => false) n = 0 := by
      intro n
      induction n with
      | zero => rfl
      | succ n ih => unfold s_cnt; rw [ih]; rfl
    rw [z]
  | succ p ih =>
    unfold s_opl
    rw [List.length_append, ih, s_opp_cnt]
    have k := s_cnt_split (fun j => decide (s_st A j = 3) && decide ((6 * d : Nat) ≤ aF A 8 j)) (fun j => aF A 8 j) (6 * d + p : Nat) A.2.1
    have e : s_cnt (fun j => decide (s_st A j = 3) && decide (aF A 8 j = (6 * d + p : Nat))) A.2.1 = s_cnt (fun j => (decide (s_st A j = 3) && decide ((6 * d : Nat) ≤ aF A 8 j)) && decide (aF A 8 j = (6 * d + p : Nat))) A.2.1 := by
      refine s_cnt_congr fun j _ => ?_
      by_cases q : aF A 8 j = (6 * d + p : Nat)
      · rw [decide_eq_true q, decide_eq_true (p := ((6 * d : Nat) : Int) ≤ aF A 8 j) (by omega)]; simp only [Bool.and_true]
      · rw [decide_eq_false q, Bool.and_false, Bool.and_false]
    rw [e]
    have e2 : ((6 * d + (p + 1) : Nat) : Int) = ((6 * d + p : Nat) : Int) + 1 := by omega
    rw [e2]
    exact k
theorem s_opl_n {A : Ab} {d : Nat} : (s_opl A d 6).length = s_cnt (fun j => decide (aF A 8 j / 6 = (d : Int)) && decide (s_st A j = 3)) A.2.1 := by
  rw [s_opl_cnt]
  refine s_cnt_congr fun j _ => ?_
  by_cases q : s_st A j = 3
  · rw [decide_eq_true q, Bool.true_and, Bool.and_true]
    by_cases y : aF A 8 j / 6 = (d : Int)
    · rw [decide_eq_true y, decide_eq_true (by omega), decide_eq_true (by omega)]; rfl
    · rw [decide_eq_false y]
      by_cases z : ((6 * d : Nat) : Int) ≤ aF A 8 j
      · rw [decide_eq_true z, decide_eq_false (by omega)]; rfl
      · rw [decide_eq_false z]; rfl
  · rw [decide_eq_false q, Bool.false_and, Bool.false_and, Bool.and_false]
