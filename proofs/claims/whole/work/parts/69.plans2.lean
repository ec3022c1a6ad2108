/-! PLANS: bounds of what is found. -/
def okA (c : Nat) (a : pl_A) : Prop := a.1 ≤ c ∧ (a.1 ≠ 0 → -240000000 ≤ a.2.1 ∧ a.2.1 ≤ 240000000)
theorem okA_jd {P c : Nat} {B : Ab} {pre : List Nat} {a : pl_A} (hB : Inv P B) (h : okA c a) : okA (c + 1) (pl_jd B pre a) := by
  have z := pl_sp_r hB
  unfold pl_jd
  split
  · exact ⟨by show a.1 + 1 ≤ c + 1; have := h.1; omega, fun _ => z⟩
  · next q => exact ⟨by show a.1 + 1 ≤ c + 1; have := h.1; omega, fun _ => h.2 (by omega)⟩
theorem okA_mono {c c' : Nat} {a : pl_A} (h : okA c a) (hc : c ≤ c') : okA c' a := ⟨Nat.le_trans h.1 hc, h.2⟩
theorem okA_fo {f : Nat → pl_A → pl_A} {m w : Nat} (hf : ∀ t c a, t < m → okA c a → okA (c + w) (f t a)) {c : Nat} {a : pl_A} (h : okA c a) : ∀ n, n ≤ m → okA (c + n * w) (pl_fo f n a) := by
  intro n
  induction n with
  | zero => intro _; rw [Nat.zero_mul]; exact h
  | succ n ih =>
    intro hn
    have := hf n _ _ (by omega) (ih (by omega))
    rw [Nat.succ_mul, ← Nat.add_assoc]
    exact this
theorem okA_go : ∀ (R : List Nat) {P c : Nat} {B : Ab} {pre : List Nat} {a : pl_A}, Inv P B → P + 6 * R.length ≤ 10000000 → okA c a → okA (c + 8 ^ R.length) (pl_go R B pre a) := by
  intro R
  induction R with
  | nil => intro P c B pre a hB _ h; exact okA_jd hB h
  | cons i R ih =>
    intro P c B pre a hB hP h
    rw [List.length_cons] at hP ⊢
    have q := okA_fo (f := fun t a => if s_bar B i t = 0 then pl_go R (s_begin B i t) (pre ++ [t]) a else a) (m := B.1) (w := 8 ^ R.length) (fun t c a ht ha => by
      by_cases y : s_bar B i t = 0
      · show okA _ (if s_bar B i t = 0 then _ else _)
        rw [if_pos y]
        exact ih (s_begin_I hB ht (by omega)) (by omega) ha
      · show okA _ (if s_bar B i t = 0 then _ else _)
        rw [if_neg y]
        exact okA_mono ha (Nat.le_add_right _ _)) h B.1 (Nat.le_refl _)
    refine okA_mono (c := c + B.1 * 8 ^ R.length) q ?_
    rw [Nat.pow_succ, Nat.mul_comm (8 ^ R.length) 8]
    exact Nat.add_le_add_left (Nat.mul_le_mul_right _ hB.1) _
