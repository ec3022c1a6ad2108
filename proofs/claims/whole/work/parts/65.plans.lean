/-! PLANS as they are meant: lessons in their order, teachers in ascending order. -/
def pl_mx (B : Ab) : Nat → Int
  | 0 => s_shr B 0
  | n + 1 => if n = 0 then s_shr B 0 else if pl_mx B n < s_shr B n then s_shr B n else pl_mx B n
def pl_mn (B : Ab) : Nat → Int
  | 0 => s_shr B 0
  | n + 1 => if n = 0 then s_shr B 0 else if s_shr B n < pl_mn B n then s_shr B n else pl_mn B n
def pl_sp (B : Ab) : Int := if B.1 = 0 then 0 else pl_mx B B.1 - pl_mn B B.1
abbrev pl_A : Type := Nat × Int × List Nat
def pl_jd (B : Ab) (pre : List Nat) (a : pl_A) : pl_A := if a.1 = 0 ∨ pl_sp B < a.2.1 then (a.1 + 1, pl_sp B, pre) else (a.1 + 1, a.2.1, a.2.2)
/-- the teachers below n in their order -/
def pl_fo (f : Nat → pl_A → pl_A) : Nat → pl_A → pl_A
  | 0, a => a
  | n + 1, a => f n (pl_fo f n a)
def pl_go : List Nat → Ab → List Nat → pl_A → pl_A
  | [], B, pre, a => pl_jd B pre a
  | i :: R, B, pre, a => pl_fo (fun t a => if s_bar B i t = 0 then pl_go R (s_begin B i t) (pre ++ [t]) a else a) B.1 a
/-- the covers chosen so far -/
def pl_bg : Ab → List Nat → List Nat → Ab
  | B, i :: R, t :: T => pl_bg (s_begin B i t) R T
  | B, _, _ => B
theorem share_add {P : Nat} {A : Ab} (hI : Inv P A) {t : Nat} (ht : t < A.1) (p q : Int) : s_share A t (p + q) = s_share A t p + s_share A t q := by
  have w := hI.2.2.2.1 t ht
  unfold s_share
  have h4 : aF A 2 t = 1 ∨ aF A 2 t = 2 ∨ aF A 2 t = 3 ∨ aF A 2 t = 4 := by omega
  have k : ∀ (d e z : Int), 0 < d → 12 = d * e → (12 * z).tdiv d = e * z := fun d e z hd he => by
    rw [he, Int.mul_assoc, Int.mul_tdiv_cancel_left _ (by omega)]
  rcases h4 with h | h | h | h <;> rw [h]
  · rw [k 1 12 _ (by decide) (by decide), k 1 12 _ (by decide) (by decide), k 1 12 _ (by decide) (by decide), Int.mul_add]
  · rw [k 2 6 _ (by decide) (by decide), k 2 6 _ (by decide) (by decide), k 2 6 _ (by decide) (by decide), Int.mul_add]
  · rw [k 3 4 _ (by decide) (by decide), k 3 4 _ (by decide) (by decide), k 3 4 _ (by decide) (by decide), Int.mul_add]
  · rw [k 4 3 _ (by decide) (by decide), k 4 3 _ (by decide) (by decide), k 4 3 _ (by decide) (by decide), Int.mul_add]
theorem begin_4 (A : Ab) (i t k : Nat) : aF (s_begin A i t) 4 k = if k = t then aF A 4 t + s_worth A i t else aF A 4 k := by
  unfold s_begin s_add
  rw [aF_aU]
  have e1 : aF (aU A 13 i t) 4 t = aF A 4 t := aF_ne A (by omega)
  have e2 : aF (aU A 13 i t) 4 k = aF A 4 k := aF_ne A (by omega)
  rw [e1, e2]
  by_cases q : k = t <;> simp [q]
theorem begin_shr {P : Nat} {A : Ab} (hI : Inv P A) {i t : Nat} (ht : t < A.1) (k : Nat) : s_shr (s_begin A i t) k = if k = t then s_shr A t + s_share A t (s_worth A i t) else s_shr A k := by
  have e2 : aF (s_begin A i t) 2 k = aF A 2 k := by rw [s_begin_aF _ _ _ 2 _ (by decide), if_neg (by omega)]
  unfold s_shr
  rw [begin_4]
  by_cases q : k = t
  · subst q
    rw [if_pos rfl, if_pos rfl, ← share_add hI ht]
    unfold s_share
    rw [e2]
  · rw [if_neg q, if_neg q]
    unfold s_share
    rw [e2]
/-- how many covers a teacher has on a day once one more is begun -/
theorem s_cnt_one {P Q : Nat → Bool} {i n : Nat} (hi : i < n) (hp : P i = false) (hq : Q i = true) (he : ∀ j, j ≠ i → Q j = P j) : s_cnt Q n = s_cnt P n + 1 := by
  induction n with
  | zero => omega
  | succ n ih =>
    unfold s_cnt
    by_cases e : i = n
    · subst e
      rw [hp, hq, s_cnt_congr (P := Q) (Q := P) (fun j hj => he j (by omega))]
      rfl
    · rw [ih (by omega), he n (fun y => e y.symm)]
      split <;> omega
theorem begin_con {A : Ab} {i t : Nat} (hi : i < A.2.1) (h13 : aF A 13 i = -1) (k : Nat) (d : Int) : s_con (s_begin A i t) k d = s_con A k d + (if k = t ∧ aF A 8 i / 6 = d then 1 else 0) := by
  unfold s_con
  have el : (s_begin A i t).2.1 = A.2.1 := rfl
  have e8 : ∀ j, aF (s_begin A i t) 8 j = aF A 8 j := fun j => by rw [s_begin_aF _ _ _ 8 _ (by decide), if_neg (by omega)]
  have e13 : ∀ j, aF (s_begin A i t) 13 j = if j = i then (t : Int) else aF A 13 j := fun j => by
    rw [s_begin_aF _ _ _ 13 _ (by decide)]; by_cases q : j = i <;> simp [q]
  rw [el]
  by_cases q : k = t ∧ aF A 8 i / 6 = d
  · rw [if_pos q]
    refine s_cnt_one hi ?_ ?_ (fun j hj => ?_)
    · rw [h13]; simp
    · rw [e13, if_pos rfl, e8]; simp [q.1, q.2]
    · rw [e13, if_neg hj, e8]
  · rw [if_neg q, Nat.add_zero]
    refine s_cnt_congr fun j hj => ?_
    rw [e13, e8]
    by_cases e : j = i
    · subst e
      rw [if_pos rfl, h13]
      have z : decide ((-1 : Int) = (k : Int)) = false := by simp
      rw [z]
      by_cases q2 : k = t
      · have q3 : ¬ aF A 8 j / 6 = d := fun y => q ⟨q2, y⟩
        simp [q3]
      · have q3 : ¬ (t : Int) = (k : Int) := by omega
        simp [q3]
    · rw [if_neg e]
theorem s_find_iff {A : Ab} {f : Nat} {s v : Int} : s_find A f s v = -1 ↔ ∀ l, l < A.2.1 → aF A 8 l = s → aF A f l ≠ v := by
  constructor
  · exact fun h => s_find_no h
  · intro h
    by_cases e : s_find A f s v = -1
    · exact e
    · obtain ⟨a, b, c, -⟩ := s_find_yes e
      exact absurd c (h _ a b)
/-- B is A with the lessons of Ls covered by those of pre, as far as it goes -/
def pl_R (A : Ab) (Ls pre : List Nat) (B : Ab) : Prop := B.1 = A.1 ∧ B.2.1 = A.2.1 ∧ pre.length ≤ Ls.length ∧ (∀ f j, f ≠ 4 → f ≠ 13 → aF B f j = aF A f j) ∧ (∀ (k i t : Nat), Ls[k]? = some i → pre[k]? = some t → aF B 13 i = (t : Int)) ∧ (∀ j, (∀ k, k < pre.length → Ls[k]? ≠ some j) → aF B 13 j = aF A 13 j)
theorem pl_R.tc {A B : Ab} {Ls pre : List Nat} (h : pl_R A Ls pre B) : B.1 = A.1 := h.1
theorem pl_R.lc {A B : Ab} {Ls pre : List Nat} (h : pl_R A Ls pre B) : B.2.1 = A.2.1 := h.2.1
theorem pl_R.len {A B : Ab} {Ls pre : List Nat} (h : pl_R A Ls pre B) : pre.length ≤ Ls.length := h.2.2.1
theorem pl_R.same {A B : Ab} {Ls pre : List Nat} (h : pl_R A Ls pre B) : ∀ f j, f ≠ 4 → f ≠ 13 → aF B f j = aF A f j := h.2.2.2.1
theorem pl_R.cov {A B : Ab} {Ls pre : List Nat} (h : pl_R A Ls pre B) : ∀ (k i t : Nat), Ls[k]? = some i → pre[k]? = some t → aF B 13 i = (t : Int) := h.2.2.2.2.1
theorem pl_R.oth {A B : Ab} {Ls pre : List Nat} (h : pl_R A Ls pre B) : ∀ j, (∀ k, k < pre.length → Ls[k]? ≠ some j) → aF B 13 j = aF A 13 j := h.2.2.2.2.2
theorem pl_R0 (A : Ab) (Ls : List Nat) : pl_R A Ls [] A := ⟨rfl, rfl, Nat.zero_le _, fun _ _ _ _ => rfl, fun k i t _ h => by simp at h, fun _ _ => rfl⟩
theorem pl_RS {A B : Ab} {Ls pre : List Nat} {i t : Nat} (h : pl_R A Ls pre B) (hN : Ls.Nodup) (hi : Ls[pre.length]? = some i) : pl_R A Ls (pre ++ [t]) (s_begin B i t) := by
  have hlt := (List.getElem?_eq_some_iff.mp hi).1
  have key : ∀ k, Ls[k]? = some i → k = pre.length := fun k hk => by
    have hk1 := (List.getElem?_eq_some_iff.mp hk).1
    exact (List.getElem?_inj hk1 hN).mp (hk.trans hi.symm)
  refine ⟨h.tc, h.lc, by rw [List.length_append, List.length_singleton]; omega, fun f j h4 h13 => ?_, fun k j u hk hu => ?_, fun j hj => ?_⟩
  · rw [s_begin_aF _ _ _ _ _ h4, if_neg (by omega)]; exact h.same f j h4 h13
  · rw [s_begin_aF _ _ _ _ _ (by decide)]
    by_cases q : k = pre.length
    · subst q
      have e1 : j = i := Option.some.inj (hk.symm.trans hi)
      have e2 : u = t := by simpa using hu.symm
      rw [if_pos ⟨rfl, e1⟩, e2]
    · have hk2 : k < pre.length := by
        have := (List.getElem?_eq_some_iff.mp hu).1
        rw [List.length_append, List.length_singleton] at this
        omega
      rw [List.getElem?_append_left hk2] at hu
      rw [if_neg (show ¬ (13 = 13 ∧ j = i) from fun y => q (key k (y.2 ▸ hk)))]
      exact h.cov k j u hk hu
  · rw [List.length_append, List.length_singleton] at hj
    rw [s_begin_aF _ _ _ _ _ (by decide), if_neg (show ¬ (13 = 13 ∧ j = i) from fun y => hj pre.length (by omega) (y.2 ▸ hi))]
    exact h.oth j (fun k hk => hj k (by omega))
theorem pl_bar {A B : Ab} {Ls pre : List Nat} {i t : Nat} (h : pl_R A Ls pre B) (hm : ∀ j, j ∈ Ls → j < A.2.1 ∧ aF A 13 j = -1) :
    s_bar B i t = 0 ↔ s_bar A i t = 0 ∧ (∀ k j, k < pre.length → Ls[k]? = some j → pre[k]? = some t → aF A 8 j ≠ aF A 8 i) ∧ (s_con B t (aF A 8 i / 6) : Int) < aF A 3 t := by
  have e11 := h.same 11 i (by decide) (by decide)
  have e8 := h.same 8 i (by decide) (by decide)
  have e3 := h.same 3 t (by decide) (by decide)
  have ea : s_away B t (aF A 8 i) = s_away A t (aF A 8 i) := by unfold s_away; rw [h.same 5 t (by decide) (by decide)]
  have f11 : s_find B 11 (aF A 8 i) t = -1 ↔ s_find A 11 (aF A 8 i) t = -1 := by
    rw [s_find_iff, s_find_iff, h.lc]
    exact ⟨fun q l hl h8 => by have := q l hl (by rw [h.same 8 l (by decide) (by decide)]; exact h8); rwa [h.same 11 l (by decide) (by decide)] at this, fun q l hl h8 => by rw [h.same 11 l (by decide) (by decide)]; exact q l hl (by rw [h.same 8 l (by decide) (by decide)] at h8; exact h8)⟩
  have f13 : s_find B 13 (aF A 8 i) t = -1 ↔ s_find A 13 (aF A 8 i) t = -1 ∧ ∀ k j, k < pre.length → Ls[k]? = some j → pre[k]? = some t → aF A 8 j ≠ aF A 8 i := by
    rw [s_find_iff, s_find_iff, h.lc]
    constructor
    · intro q
      refine ⟨fun l hl h8 hv => ?_, fun k j hk hj ht h8 => ?_⟩
      · by_cases c : ∃ k, k < pre.length ∧ Ls[k]? = some l
        · obtain ⟨k, hk, hl2⟩ := c
          have := (hm l (List.mem_of_getElem? hl2)).2
          omega
        · have e := h.oth l (fun k hk y => c ⟨k, hk, y⟩)
          exact q l hl (by rw [h.same 8 l (by decide) (by decide)]; exact h8) (e.trans hv)
      · exact q j (hm j (List.mem_of_getElem? hj)).1 (by rw [h.same 8 j (by decide) (by decide)]; exact h8) (h.cov k j t hj ht)
    · rintro ⟨q1, q2⟩ l hl h8 hv
      rw [h.same 8 l (by decide) (by decide)] at h8
      by_cases c : ∃ k, k < pre.length ∧ Ls[k]? = some l
      · obtain ⟨k, hk, hl2⟩ := c
        obtain ⟨u, hu⟩ : ∃ u, pre[k]? = some u := ⟨_, List.getElem?_eq_getElem hk⟩
        have e := h.cov k l u hl2 hu
        have : u = t := by omega
        subst this
        exact q2 k l hk hl2 hu h8
      · exact q1 l hl h8 ((h.oth l (fun k hk y => c ⟨k, hk, y⟩)).symm.trans hv)
  have con_le : s_con A t (aF A 8 i / 6) ≤ s_con B t (aF A 8 i / 6) := by
    unfold s_con
    rw [h.lc]
    have mono : ∀ n, n ≤ A.2.1 → s_cnt (fun j => decide (aF A 13 j = (t : Int)) && decide (aF A 8 j / 6 = aF A 8 i / 6)) n ≤ s_cnt (fun j => decide (aF B 13 j = (t : Int)) && decide (aF B 8 j / 6 = aF A 8 i / 6)) n := by
      intro n
      induction n with
      | zero => intro _; exact Nat.le_refl _
      | succ n ih =>
        intro hn
        have a := ih (by omega)
        unfold s_cnt
        have b : (decide (aF A 13 n = (t : Int)) && decide (aF A 8 n / 6 = aF A 8 i / 6)) = true → (decide (aF B 13 n = (t : Int)) && decide (aF B 8 n / 6 = aF A 8 i / 6)) = true := by
          intro y
          simp only [Bool.and_eq_true, decide_eq_true_eq] at y ⊢
          refine ⟨?_, by rw [h.same 8 n (by decide) (by decide)]; exact y.2⟩
          rw [h.oth n (fun k hk z => by have := (hm n (List.mem_of_getElem? z)).2; omega)]
          exact y.1
        split
        · next y => rw [if_pos (b y)]; omega
        · split <;> omega
    exact mono A.2.1 (Nat.le_refl _)
  unfold s_bar
  rw [e11, e8, e3, ea]
  by_cases c1 : aF A 11 i = t
  · rw [if_pos c1, if_pos c1]; omega
  · rw [if_neg c1, if_neg c1]
    by_cases c2 : s_away A t (aF A 8 i) = true
    · rw [if_pos c2, if_pos c2]; omega
    · rw [if_neg c2, if_neg c2]
      by_cases c3 : s_find A 11 (aF A 8 i) t = -1
      · rw [if_neg (show ¬ (s_find B 11 (aF A 8 i) t ≠ -1) from fun y => y (f11.mpr c3)), if_neg (show ¬ (s_find A 11 (aF A 8 i) t ≠ -1) from fun y => y c3)]
        by_cases c4 : s_find A 13 (aF A 8 i) t = -1
        · rw [if_neg (show ¬ (s_find A 13 (aF A 8 i) t ≠ -1) from fun y => y c4)]
          by_cases c5 : ∀ k j, k < pre.length → Ls[k]? = some j → pre[k]? = some t → aF A 8 j ≠ aF A 8 i
          · rw [if_neg (show ¬ (s_find B 13 (aF A 8 i) t ≠ -1) from fun y => y (f13.mpr ⟨c4, c5⟩))]
            constructor
            · intro y
              split at y
              · omega
              · exact ⟨by rw [if_neg (by omega)], c5, by omega⟩
            · rintro ⟨-, -, y⟩
              rw [if_neg (by omega)]
          · rw [if_pos (show s_find B 13 (aF A 8 i) t ≠ -1 from fun y => c5 (f13.mp y).2)]
            exact ⟨fun y => by omega, fun y => absurd y.2.1 c5⟩
        · rw [if_pos (show s_find B 13 (aF A 8 i) t ≠ -1 from fun y => c4 (f13.mp y).1), if_pos (show s_find A 13 (aF A 8 i) t ≠ -1 from c4)]; omega
      · rw [if_pos (show s_find B 11 (aF A 8 i) t ≠ -1 from fun y => c3 (f11.mp y)), if_pos (show s_find A 11 (aF A 8 i) t ≠ -1 from c3)]; omega
