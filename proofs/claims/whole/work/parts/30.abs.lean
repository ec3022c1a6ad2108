/-! THE SCHOOL AS NUMBERS: how many teachers, how many lessons, and what stands in the fields: F f j. f: 0 counts (2, 3 the undone ones), 1 subjects, 2 weights, 3 limits, 4 points, 5 absences (by teacher), 6 sizes, 7 capacities (by class, room), 8 slots, 9 classes, 10 subjects, 11 teachers, 12 rooms, 13 coverers, 14 first hosts, 15 second hosts (by lesson; -1: none). -/
abbrev Ab : Type := Nat × Nat × (Nat → Nat → Int)
def aF (A : Ab) (f j : Nat) : Int := A.2.2 f j
def aU (A : Ab) (f j : Nat) (v : Int) : Ab := (A.1, A.2.1, fun a b => if a = f ∧ b = j then v else A.2.2 a b)
def a_in (A : Ab) (f j : Nat) : Prop := (f = 0 ∧ (j = 2 ∨ j = 3)) ∨ (1 ≤ f ∧ f ≤ 5 ∧ j < A.1) ∨ (6 ≤ f ∧ f ≤ 7 ∧ j < 6) ∨ (8 ≤ f ∧ f ≤ 15 ∧ j < A.2.1)
/-- the school whose cells begin at c holds A -/
def rC (c : Nat) (A : Ab) (h : ux_H) : Prop := xgi h c 0 = nI A.1 ∧ xgi h c 1 = nI A.2.1 ∧ ∀ f j, a_in A f j → xgi h (c + f) j = iI (aF A f j)
/-- how a state is laid in the reference's rows: teachers from 16, five each; lessons from 56, eight each -/
def m_at (f j : Nat) : Nat := match f with
  | 0 => j
  | 1 => 16 + 5 * j
  | 2 => 17 + 5 * j
  | 3 => 18 + 5 * j
  | 4 => 20 + 5 * j
  | 5 => 19 + 5 * j
  | 6 => 4 + j
  | 7 => 10 + j
  | f + 8 => 56 + 8 * j + f
/-- the row of cell c, from place o on, holds A -/
def rM (c o : Nat) (A : Ab) (h : ux_H) : Prop := xgi h c o = nI A.1 ∧ xgi h c (o + 1) = nI A.2.1 ∧ ∀ f j, a_in A f j → xgi h c (o + m_at f j) = iI (aF A f j)
/-- bit k of a set -/
def s_bit (x k : Int) : Bool := decide (iI x >>> (iI k &&& 31) &&& 1 ≠ 0)
def s_own (A : Ab) (l : Nat) : Nat := (aF A 11 l).toNat
def s_away (A : Ab) (t : Nat) (s : Int) : Bool := s_bit (aF A 5 t) s
def s_gone (A : Ab) (l : Nat) : Bool := s_away A (s_own A l) (aF A 8 l)
def s_act (A : Ab) (l : Nat) : Int := if s_gone A l then aF A 13 l else aF A 11 l
def s_st (A : Ab) (l : Nat) : Int := if s_gone A l then (if aF A 13 l ≠ -1 then 1 else if aF A 14 l ≠ -1 then 2 else 3) else 0
/-- how many below n -/
def s_cnt (P : Nat → Bool) : Nat → Nat
  | 0 => 0
  | n + 1 => s_cnt P n + (if P n then 1 else 0)
theorem s_cnt_le (P : Nat → Bool) (n : Nat) : s_cnt P n ≤ n := by
  induction n with
  | zero => exact Nat.le_refl _
  | succ n ih => unfold s_cnt; split <;> omega
theorem s_cnt_congr {P Q : Nat → Bool} {n : Nat} (h : ∀ i, i < n → P i = Q i) : s_cnt P n = s_cnt Q n := by
  induction n with
  | zero => rfl
  | succ n ih => unfold s_cnt; rw [ih (fun i hi => h i (by omega)), h n (by omega)]
/-- the first below n, or none -/
def s_fst (P : Nat → Bool) (n : Nat) : Option Nat := (List.range n).find? P
theorem s_fst_some {P : Nat → Bool} {n l : Nat} (hl : l < n) (hp : P l = true) (hu : ∀ i, i < n → P i = true → i = l) : s_fst P n = some l := by
  unfold s_fst
  cases e : (List.range n).find? P with
  | none =>
    have := List.find?_eq_none.mp e l (List.mem_range.mpr hl)
    exact absurd hp this
  | some i =>
    have h1 := List.find?_some e
    have h2 := List.mem_range.mp (List.mem_of_find?_eq_some e)
    rw [hu i h2 h1]
theorem s_fst_none {P : Nat → Bool} {n : Nat} (hp : ∀ i, i < n → P i = false) : s_fst P n = none := by
  unfold s_fst
  refine List.find?_eq_none.mpr (fun i hi => ?_)
  rw [hp i (List.mem_range.mp hi)]
  exact Bool.false_ne_true
theorem s_fst_spec {P : Nat → Bool} {n : Nat} : (s_fst P n = none ∧ ∀ i, i < n → P i = false) ∨ ∃ l, s_fst P n = some l ∧ l < n ∧ P l = true := by
  unfold s_fst
  cases e : (List.range n).find? P with
  | none => exact Or.inl ⟨rfl, fun i hi => by simpa using List.find?_eq_none.mp e i (List.mem_range.mpr hi)⟩
  | some i => exact Or.inr ⟨i, rfl, List.mem_range.mp (List.mem_of_find?_eq_some e), List.find?_some e⟩
theorem s_fst_first {P : Nat → Bool} : ∀ {n l : Nat}, l < n → P l = true → (∀ i, i < l → P i = false) → s_fst P n = some l := by
  intro n l hl hp hf
  unfold s_fst
  have h1 : List.range n = List.range l ++ (List.range (n - l)).map (l + ·) := by
    conv => lhs; rw [show n = l + (n - l) by omega]
    exact List.range_add
  rw [h1, List.find?_append]
  have h2 : (List.range l).find? P = none := List.find?_eq_none.mpr (fun i hi => by rw [hf i (List.mem_range.mp hi)]; exact Bool.false_ne_true)
  rw [h2]
  obtain ⟨m, hm⟩ : ∃ m, n - l = m + 1 := ⟨n - l - 1, by omega⟩
  rw [hm, List.range_succ_eq_map]
  simp [hp]
def s_oi (o : Option Nat) : Int := match o with
  | some l => l
  | none => -1
/-- the lesson of the slot that has v in field f -/
def s_find (A : Ab) (f : Nat) (s v : Int) : Int := s_oi (s_fst (fun l => decide (aF A 8 l = s) && decide (aF A f l = v)) A.2.1)
/-- what a state keeps to -/
def Inv (P : Nat) (A : Ab) : Prop :=
  A.1 ≤ 8 ∧ A.2.1 ≤ 40 ∧ P ≤ 10000000 ∧
  (∀ t, t < A.1 → 1 ≤ aF A 1 t ∧ aF A 1 t ≤ 63 ∧ 1 ≤ aF A 2 t ∧ aF A 2 t ≤ 4 ∧ 0 ≤ aF A 3 t ∧ aF A 3 t ≤ 3 ∧ -(P : Int) ≤ aF A 4 t ∧ aF A 4 t ≤ P ∧ 0 ≤ aF A 5 t ∧ aF A 5 t < 1073741824) ∧
  (∀ c, c < 6 → 1 ≤ aF A 6 c ∧ aF A 6 c ≤ 30 ∧ 10 ≤ aF A 7 c ∧ aF A 7 c ≤ 60) ∧
  (∀ l, l < A.2.1 → 0 ≤ aF A 8 l ∧ aF A 8 l < 30 ∧ 0 ≤ aF A 9 l ∧ aF A 9 l < 6 ∧ 0 ≤ aF A 10 l ∧ aF A 10 l < 6 ∧ 0 ≤ aF A 11 l ∧ aF A 11 l < A.1 ∧ 0 ≤ aF A 12 l ∧ aF A 12 l < 6 ∧ -1 ≤ aF A 13 l ∧ aF A 13 l < A.1 ∧ -1 ≤ aF A 14 l ∧ aF A 14 l < A.2.1 ∧ -1 ≤ aF A 15 l ∧ aF A 15 l < A.2.1)
/-- a class's size, by lesson; what a lesson gets from the split ones below n; its load -/
def s_sz (A : Ab) (i : Nat) : Int := aF A 6 (aF A 9 i).toNat
def s_gst (A : Ab) (i : Nat) : Nat → Int
  | 0 => 0
  | n + 1 => s_gst A i n + (if aF A 14 n = i then (s_sz A n + 1) / 2 else 0) + (if aF A 15 n = i then s_sz A n / 2 else 0)
def s_load (A : Ab) (i : Nat) : Int := s_sz A i + s_gst A i A.2.1
/-- how the lessons hang together -/
def InvF (A : Ab) : Prop :=
  (∀ i j, i < A.2.1 → j < A.2.1 → i ≠ j → aF A 8 i = aF A 8 j → aF A 9 i ≠ aF A 9 j ∧ aF A 11 i ≠ aF A 11 j ∧ aF A 12 i ≠ aF A 12 j) ∧
  (∀ i, i < A.2.1 → aF A 13 i ≠ -1 → s_gone A i = true ∧ aF A 13 i ≠ aF A 11 i ∧ s_away A (aF A 13 i).toNat (aF A 8 i) = false ∧ aF A 14 i = -1 ∧ (∀ j, j < A.2.1 → aF A 8 j = aF A 8 i → aF A 11 j ≠ aF A 13 i) ∧ ∀ j, j < A.2.1 → j ≠ i → aF A 8 j = aF A 8 i → aF A 13 j ≠ aF A 13 i) ∧
  (∀ i, i < A.2.1 → (aF A 14 i = -1 ↔ aF A 15 i = -1)) ∧
  (∀ i, i < A.2.1 → aF A 14 i ≠ -1 → s_gone A i = true ∧ aF A 14 i ≠ aF A 15 i ∧ aF A 8 (aF A 14 i).toNat = aF A 8 i ∧ aF A 8 (aF A 15 i).toNat = aF A 8 i ∧ s_act A (aF A 14 i).toNat ≠ -1 ∧ s_act A (aF A 15 i).toNat ≠ -1) ∧
  (∀ i, i < A.2.1 → s_load A i ≤ aF A 7 (aF A 12 i).toNat)
