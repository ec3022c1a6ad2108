/-! THE CLASS: rows (at, put ..), ranges. -/
theorem xmax_X5_433 : Cond.methodLink RX5 433 Lib.Math.max.name ∈ ux_T := ux_mem (n := 775) (by decide +kernel) (by decide +kernel)
theorem xmax_s : Cond.static Lib.Math.max.name ∈ ux_T := ux_mem (n := 776) (by decide +kernel) (by decide +kernel)
theorem xmax_c : Cond.code Lib.Math.max.name Lib.Math.max.code 2 (some .int) ∈ ux_T := ux_mem (n := 777) (by decide +kernel) (by decide +kernel)
theorem xmax_X3_119 : Cond.methodLink RX3 119 Lib.Math.max.name ∈ ux_T := ux_mem (n := 1148) (by decide +kernel) (by decide +kernel)
theorem xmax_X6_205 : Cond.methodLink RX6 205 Lib.Math.max.name ∈ ux_T := ux_mem (n := 1713) (by decide +kernel) (by decide +kernel)
theorem xmin_X0_33 : Cond.methodLink RX0 33 Lib.Math.min.name ∈ ux_T := ux_mem (n := 582) (by decide +kernel) (by decide +kernel)
theorem xmin_s : Cond.static Lib.Math.min.name ∈ ux_T := ux_mem (n := 583) (by decide +kernel) (by decide +kernel)
theorem xmin_c : Cond.code Lib.Math.min.name Lib.Math.min.code 2 (some .int) ∈ ux_T := ux_mem (n := 584) (by decide +kernel) (by decide +kernel)
theorem xmin_X3_56 : Cond.methodLink RX3 56 Lib.Math.min.name ∈ ux_T := ux_mem (n := 1124) (by decide +kernel) (by decide +kernel)
theorem xmin_X6_200 : Cond.methodLink RX6 200 Lib.Math.min.name ∈ ux_T := ux_mem (n := 1712) (by decide +kernel) (by decide +kernel)
theorem xmath_i : Cond.initialized "java/lang/Math" ∈ ux_T := ux_mem (n := 149) (by decide +kernel) (by decide +kernel)
theorem xb_0 {p : Prop} [Decidable p] : ((if p then (1 : Int32) else 0) = 0) ↔ ¬ p := by by_cases q : p <;> simp [q]
/-- a row with its first n places set to x -/
def xfill (h : ux_H) (k : Nat) (x : Int32) (n : Nat) : ux_H := fun a b => if a = k ∧ b < n then .int x else h a b
theorem xfill_0 (h : ux_H) (k : Nat) (x : Int32) : xfill h k x 0 = h := by funext a b; simp [xfill]
theorem xfill_s (h : ux_H) (k : Nat) (x : Int32) (n : Nat) : xsi (xfill h k x n) k n x = xfill h k x (n + 1) := by
  funext a b
  unfold xsi xsv xfill
  by_cases e1 : a = k
  · by_cases e2 : b = n
    · simp [e1, e2]
    · have : (b < n + 1) ↔ b < n := by omega
      simp [e1, e2, this]
  · simp [e1]
/-- a row with its first n places those of the row f -/
def xcopy (h : ux_H) (f k : Nat) (n : Nat) : ux_H := fun a b => if a = k ∧ b < n then .int (xgi h f b) else h a b
theorem xcopy_0 (h : ux_H) (f k : Nat) : xcopy h f k 0 = h := by funext a b; simp [xcopy]
theorem xcopy_g (h : ux_H) (f k n a b : Nat) : xgi (xcopy h f k n) a b = if a = k ∧ b < n then xgi h f b else xgi h a b := by
  by_cases e : a = k ∧ b < n
  · simp [xgi, xcopy, e]
  · simp [xgi, xcopy, e]
theorem xfill_g (h : ux_H) (k : Nat) (x : Int32) (n a b : Nat) : xgi (xfill h k x n) a b = if a = k ∧ b < n then x else xgi h a b := by
  by_cases e : a = k ∧ b < n
  · simp [xgi, xfill, e]
  · simp [xgi, xfill, e]
theorem xcopy_s (h : ux_H) {f k : Nat} (hk : f ≠ k) (n : Nat) : xsi (xcopy h f k n) k n (xgi (xcopy h f k n) f n) = xcopy h f k (n + 1) := by
  rw [xcopy_g, if_neg (by omega)]
  funext a b
  unfold xsi xsv xcopy
  by_cases e1 : a = k
  · by_cases e2 : b = n
    · simp [e1, e2]
    · have : (b < n + 1) ↔ b < n := by omega
      simp [e1, e2, this]
  · simp [e1]
/-- a row from i to n moved down by one -/
def xdrop (h : ux_H) (k i n : Nat) : ux_H := fun a b => if a = k ∧ i ≤ b ∧ b < n then .int (xgi h k (b + 1)) else h a b
theorem xdrop_g (h : ux_H) (k i n a b : Nat) : xgi (xdrop h k i n) a b = if a = k ∧ i ≤ b ∧ b < n then xgi h k (b + 1) else xgi h a b := by
  by_cases e : a = k ∧ i ≤ b ∧ b < n
  · simp [xgi, xdrop, e]
  · simp [xgi, xdrop, e]
theorem xdrop_0 (h : ux_H) (k i : Nat) : xdrop h k i i = h := by
  funext a b
  have : ¬ (a = k ∧ i ≤ b ∧ b < i) := by omega
  simp [xdrop, this]
theorem xdrop_s (h : ux_H) {k i n : Nat} (hi : i ≤ n) : xsi (xdrop h k i n) k n (xgi (xdrop h k i n) k (n + 1)) = xdrop h k i (n + 1) := by
  rw [xdrop_g, if_neg (by omega)]
  funext a b
  unfold xsi xsv xdrop
  by_cases e1 : a = k
  · by_cases e2 : b = n
    · simp [e1, e2, hi]
    · have : (i ≤ b ∧ b < n + 1) ↔ (i ≤ b ∧ b < n) := by omega
      simp [e1, e2, this]
  · simp [e1]
set_option maxRecDepth 100000 in
theorem mX5_isWithin {l : Launch} {G : ux_G} {h : ux_H} {x lo hi : Int32} : ux_F l G yX5_isWithin iX5_isWithin 1 0 [.int x, .int lo, .int hi] h (some (.int (if lo ≤ x ∧ x ≤ hi then 1 else 0))) (h) := by
  unfold ux_F
  refine ux_ent (L' := [some (.int x), some (.int lo), some (.int hi)]) kX5_isWithin rfl rfl rfl rfl ?_
  refine g_iload_n dX5_isWithin_0 rfl ?_
  refine g_iload_n dX5_isWithin_1 rfl ?_
  refine g_icmp_gt (tgt := 14) dX5_isWithin_2 (by decide) (fun c2 => ?_) (fun c2 => ?_)
  · rw [← Int32.not_le] at c2
    refine g_iconst (v := 0) dX5_isWithin_14 (by decide) ?_
    refine g_ireturn dX5_isWithin_15 rfl rfl (by decide) ?_
    exact ⟨by simp [c2], rfl⟩
  · rw [Int32.not_lt] at c2
    refine g_iload_n dX5_isWithin_5 rfl ?_
    refine g_iload_n dX5_isWithin_6 rfl ?_
    refine g_icmp_gt (tgt := 14) dX5_isWithin_7 (by decide) (fun c7 => ?_) (fun c7 => ?_)
    · rw [← Int32.not_le] at c7
      refine g_iconst (v := 0) dX5_isWithin_14 (by decide) ?_
      refine g_ireturn dX5_isWithin_15 rfl rfl (by decide) ?_
      exact ⟨by simp [c2, c7], rfl⟩
    · rw [Int32.not_lt] at c7
      refine g_iconst (v := 1) dX5_isWithin_10 (by decide) ?_
      refine g_goto (tgt := 15) dX5_isWithin_11 (by decide) ?_
      refine g_ireturn dX5_isWithin_15 rfl rfl (by decide) ?_
      exact ⟨by simp [c2, c7], rfl⟩
set_option maxRecDepth 100000 in
theorem mX5_at {l : Launch} {G : ux_G} {h : ux_H} {k j : Nat} (hk : ux_kd k = 10) (hj : j < ux_ln k) : ux_F l G yX5_at iX5_at 1 0 [.ref k, .int (nI j)] h (some (.int (xgi h k j))) (h) := by
  unfold ux_F
  refine ux_ent (L' := [some (.ref k), some (.int (nI j))]) kX5_at rfl rfl rfl rfl ?_
  have hj2 := Nat.lt_trans hj (ux_ln_lt k)
  refine g_iload_n dX5_at_0 rfl ?_
  refine g_if_lt (tgt := 16) dX5_at_1 (by decide) (fun c1 => ?_) (fun c1 => ?_)
  · exact absurd c1 (nI_pos hj2)
  · refine g_iload_n dX5_at_4 rfl ?_
    refine g_aload_n dX5_at_5 rfl ?_
    refine g_alen (v := nI (ux_ln k)) dX5_at_6 (by omega) rfl ?_
    refine g_icmp_ge (tgt := 16) dX5_at_7 (by decide) (fun c7 => ?_) (fun c7 => ?_)
    · exact absurd c7 (nI_ge hj (ux_ln_lt k))
    · refine g_aload_n dX5_at_10 rfl ?_
      refine g_iload_n dX5_at_11 rfl ?_
      refine g_iald dX5_at_12 hk hj rfl ?_
      refine g_goto (tgt := 17) dX5_at_13 (by decide) ?_
      refine g_ireturn dX5_at_17 rfl rfl (by decide) ?_
      exact ⟨rfl, rfl⟩
set_option maxRecDepth 100000 in
theorem mX5_signAt {l : Launch} {G : ux_G} {h : ux_H} {k j : Nat} (hk : ux_kd k = 11) (hj : j < ux_ln k) (hx : narrow .char (.int (xgi h k j)) = .int (xgi h k j)) : ux_F l G yX5_signAt iX5_signAt 1 0 [.ref k, .int (nI j)] h (some (.int (xgi h k j))) (h) := by
  unfold ux_F
  refine ux_ent (L' := [some (.ref k), some (.int (nI j))]) kX5_signAt rfl rfl rfl rfl ?_
  have hj2 := Nat.lt_trans hj (ux_ln_lt k)
  refine g_iload_n dX5_signAt_0 rfl ?_
  refine g_if_lt (tgt := 16) dX5_signAt_1 (by decide) (fun c1 => ?_) (fun c1 => ?_)
  · exact absurd c1 (nI_pos hj2)
  · refine g_iload_n dX5_signAt_4 rfl ?_
    refine g_aload_n dX5_signAt_5 rfl ?_
    refine g_alen (v := nI (ux_ln k)) dX5_signAt_6 (by omega) rfl ?_
    refine g_icmp_ge (tgt := 16) dX5_signAt_7 (by decide) (fun c7 => ?_) (fun c7 => ?_)
    · exact absurd c7 (nI_ge hj (ux_ln_lt k))
    · refine g_aload_n dX5_signAt_10 rfl ?_
      refine g_iload_n dX5_signAt_11 rfl ?_
      refine g_cald dX5_signAt_12 hk hj rfl ?_
      refine g_goto (tgt := 18) dX5_signAt_13 (by decide) ?_
      refine g_ireturn dX5_signAt_18 rfl hx (by decide) ?_
      exact ⟨rfl, rfl⟩
set_option maxRecDepth 100000 in
theorem mX5_put {l : Launch} {G : ux_G} {h : ux_H} {k j : Nat} {x : Int32} (hk : ux_kd k = 10) (hj : j < ux_ln k) : ux_F l G yX5_put iX5_put 1 0 [.ref k, .int (nI j), .int x] h (none) (xsi h k j x) := by
  unfold ux_F
  refine ux_ent (L' := [some (.ref k), some (.int (nI j)), some (.int x)]) kX5_put rfl rfl rfl rfl ?_
  have hj2 := Nat.lt_trans hj (ux_ln_lt k)
  refine g_iload_n dX5_put_0 rfl ?_
  refine g_if_lt (tgt := 14) dX5_put_1 (by decide) (fun c1 => ?_) (fun c1 => ?_)
  · exact absurd c1 (nI_pos hj2)
  · refine g_iload_n dX5_put_4 rfl ?_
    refine g_aload_n dX5_put_5 rfl ?_
    refine g_alen (v := nI (ux_ln k)) dX5_put_6 (by omega) rfl ?_
    refine g_icmp_ge (tgt := 14) dX5_put_7 (by decide) (fun c7 => ?_) (fun c7 => ?_)
    · exact absurd c7 (nI_ge hj (ux_ln_lt k))
    · refine g_aload_n dX5_put_10 rfl ?_
      refine g_iload_n dX5_put_11 rfl ?_
      refine g_iload_n dX5_put_12 rfl ?_
      refine g_iast dX5_put_13 hk hj rfl ?_
      refine g_return dX5_put_14 rfl (by decide) ?_
      exact ⟨rfl, rfl⟩
set_option maxRecDepth 100000 in
theorem mX5_swap {l : Launch} {G : ux_G} {h : ux_H} {k j : Nat} {x : Int32} (hk : ux_kd k = 10) (hj : j < ux_ln k) : ux_F l G yX5_swap iX5_swap 2 0 [.ref k, .int (nI j), .int x] h (some (.int (xgi h k j))) (xsi h k j x) := by
  unfold ux_F
  refine ux_ent (L' := [some (.ref k), some (.int (nI j)), some (.int x), none]) kX5_swap rfl rfl rfl rfl ?_
  refine g_aload_n dX5_swap_0 rfl ?_
  refine g_iload_n dX5_swap_1 rfl ?_
  refine f1_S (u' := 0) lX5_173 kX5_at (mX5_at hk hj) dX5_swap_2 rfl rfl rfl rfl rfl rfl ?_
  refine s_i (i := 3) dX5_swap_5 rfl rfl rfl rfl ?_
  dsimp only [List.set]
  refine g_aload_n dX5_swap_6 rfl ?_
  refine g_iload_n dX5_swap_7 rfl ?_
  refine g_iload_n dX5_swap_8 rfl ?_
  refine f0_S (u' := 0) lX5_429 kX5_put (mX5_put hk hj) dX5_swap_9 rfl rfl rfl rfl rfl rfl ?_
  refine g_iload_n dX5_swap_12 rfl ?_
  refine g_ireturn dX5_swap_13 rfl rfl (by decide) ?_
  exact ⟨rfl, rfl⟩
set_option maxRecDepth 100000 in
theorem wX5_fill {l : Launch} {G : ux_G} {h : ux_H} {k : Nat} {x : Int32} (hk : ux_kd k = 10) : ∀ (n : Nat) (j : Nat), j ≤ ux_ln k → ux_ln k - j < n → ux_W l G iX5_fill (ux_rm 1 0) (ux_Z G 0 (fun v h' => v = none ∧ h' = xfill h k x (ux_ln k)) (fun _ _ => False)) 2 [some (.ref k), some (.int x), some (.int (nI j))] [] ((xfill h k x j)) 0 := by
  intro n
  induction n with
  | zero => intro j hj hn; exact absurd hn (Nat.not_lt_zero _)
  | succ n ih =>
    intro j hj hn
    refine g_iload_n dX5_fill_2 rfl ?_
    refine g_aload_n dX5_fill_3 rfl ?_
    refine g_alen (v := nI (ux_ln k)) dX5_fill_4 (by omega) rfl ?_
    refine g_icmp_ge (tgt := 18) dX5_fill_5 (by decide) (fun c5 => ?_) (fun c5 => ?_)
    · have e : j = ux_ln k := by have := (nI_leI (ux_ln_lt k) (Nat.lt_of_le_of_lt hj (ux_ln_lt k))).mp c5; omega
      subst e
      refine g_return dX5_fill_18 rfl (by decide) ?_
      exact ⟨rfl, rfl⟩
    · have hlt : j < ux_ln k := by rcases Nat.lt_or_ge j (ux_ln k) with q | q; exact q; exact absurd ((nI_leI (ux_ln_lt k) (Nat.lt_of_le_of_lt hj (ux_ln_lt k))).mpr q) c5
      refine g_aload_n dX5_fill_8 rfl ?_
      refine g_iload_n dX5_fill_9 rfl ?_
      refine g_iload_n dX5_fill_10 rfl ?_
      refine g_iast dX5_fill_11 hk hlt rfl ?_
      refine s_inc (v := nI (j + 1)) dX5_fill_12 rfl (nI_1 j) rfl rfl rfl ?_
      dsimp only [List.set]
      refine g_goto (tgt := 2) dX5_fill_15 (by decide) ?_
      rw [xfill_s]
      exact ih (j + 1) hlt (by omega)
set_option maxRecDepth 100000 in
theorem mX5_fill {l : Launch} {G : ux_G} {h : ux_H} {k : Nat} {x : Int32} (hk : ux_kd k = 10) : ux_F l G yX5_fill iX5_fill 1 0 [.ref k, .int x] h (none) (xfill h k x (ux_ln k)) := by
  unfold ux_F
  refine ux_ent (L' := [some (.ref k), some (.int x), none]) kX5_fill rfl rfl rfl rfl ?_
  refine g_iconst (v := 0) dX5_fill_0 (by decide) ?_
  refine s_i (i := 2) dX5_fill_1 rfl rfl rfl rfl ?_
  dsimp only [List.set]
  have := wX5_fill (l := l) (G := G) (h := h) (x := x) hk (ux_ln k + 1) 0 (Nat.zero_le _) (by omega)
  rw [xfill_0] at this
  exact this
set_option maxRecDepth 100000 in
theorem wX5_copy {l : Launch} {G : ux_G} {h : ux_H} {f k : Nat} (hk : ux_kd k = 10) (hf : ux_kd f = 10) (hfk : ux_ln f = ux_ln k) (hne : f ≠ k) : ∀ (n : Nat) (j : Nat), j ≤ ux_ln f → ux_ln f - j < n → ux_W l G iX5_copy (ux_rm 1 0) (ux_Z G 0 (fun v h' => v = none ∧ h' = xcopy h f k (ux_ln f)) (fun _ _ => False)) 2 [some (.ref f), some (.ref k), some (.int (nI j))] [] ((xcopy h f k j)) 0 := by
  intro n
  induction n with
  | zero => intro j hj hn; exact absurd hn (Nat.not_lt_zero _)
  | succ n ih =>
    intro j hj hn
    refine g_iload_n dX5_copy_2 rfl ?_
    refine g_aload_n dX5_copy_3 rfl ?_
    refine g_alen (v := nI (ux_ln f)) dX5_copy_4 (by omega) rfl ?_
    refine g_icmp_ge (tgt := 26) dX5_copy_5 (by decide) (fun c5 => ?_) (fun c5 => ?_)
    · have e : j = ux_ln f := by have := (nI_leI (ux_ln_lt f) (Nat.lt_of_le_of_lt hj (ux_ln_lt f))).mp c5; omega
      subst e
      refine g_return dX5_copy_26 rfl (by decide) ?_
      exact ⟨rfl, rfl⟩
    · have hlt : j < ux_ln f := by rcases Nat.lt_or_ge j (ux_ln f) with q | q; exact q; exact absurd ((nI_leI (ux_ln_lt f) (Nat.lt_of_le_of_lt hj (ux_ln_lt f))).mpr q) c5
      refine g_iload_n dX5_copy_8 rfl ?_
      refine g_aload_n dX5_copy_9 rfl ?_
      refine g_alen (v := nI (ux_ln f)) dX5_copy_10 (by omega) (by rw [hfk]) ?_
      refine g_icmp_ge (tgt := 26) dX5_copy_11 (by decide) (fun c11 => ?_) (fun c11 => ?_)
      · exact absurd c11 (nI_ge hlt (ux_ln_lt f))
      · refine g_aload_n dX5_copy_14 rfl ?_
        refine g_iload_n dX5_copy_15 rfl ?_
        refine g_aload_n dX5_copy_16 rfl ?_
        refine g_iload_n dX5_copy_17 rfl ?_
        refine g_iald dX5_copy_18 hf hlt rfl ?_
        refine g_iast dX5_copy_19 hk (by omega) rfl ?_
        refine s_inc (v := nI (j + 1)) dX5_copy_20 rfl (nI_1 j) rfl rfl rfl ?_
        dsimp only [List.set]
        refine g_goto (tgt := 2) dX5_copy_23 (by decide) ?_
        rw [xcopy_s _ hne]
        exact ih (j + 1) hlt (by omega)
set_option maxRecDepth 100000 in
theorem mX5_copy {l : Launch} {G : ux_G} {h : ux_H} {f k : Nat} (hk : ux_kd k = 10) (hf : ux_kd f = 10) (hfk : ux_ln f = ux_ln k) (hne : f ≠ k) : ux_F l G yX5_copy iX5_copy 1 0 [.ref f, .ref k] h (none) (xcopy h f k (ux_ln f)) := by
  unfold ux_F
  refine ux_ent (L' := [some (.ref f), some (.ref k), none]) kX5_copy rfl rfl rfl rfl ?_
  refine g_iconst (v := 0) dX5_copy_0 (by decide) ?_
  refine s_i (i := 2) dX5_copy_1 rfl rfl rfl rfl ?_
  dsimp only [List.set]
  have := wX5_copy (l := l) (G := G) (h := h) hk hf hfk hne (ux_ln f + 1) 0 (Nat.zero_le _) (by omega)
  rw [xcopy_0] at this
  exact this
set_option maxRecDepth 100000 in
theorem wX5_dropFrom {l : Launch} {G : ux_G} {h : ux_H} {k i : Nat} (hk : ux_kd k = 10) (hk1 : 1 ≤ ux_ln k) : ∀ (n : Nat) (j : Nat), i ≤ j → j ≤ ux_ln k - 1 → ux_ln k - j < n → ux_W l G iX5_dropFrom (ux_rm 1 0) (ux_Z G 0 (fun v h' => v = none ∧ h' = xdrop h k i (ux_ln k - 1)) (fun _ _ => False)) 6 [some (.ref k), some (.int (nI i)), some (.int (nI j))] [] ((xdrop h k i j)) 0 := by
  intro n
  induction n with
  | zero => intro j hij hj hn; exact absurd hn (Nat.not_lt_zero _)
  | succ n ih =>
    intro j hij hj hn
    have e10 : nI (ux_ln k) - 1 = nI (ux_ln k - 1) := pk_sub (a := ux_ln k) (b := 1) hk1
    refine g_iload_n dX5_dropFrom_6 rfl ?_
    refine g_aload_n dX5_dropFrom_7 rfl ?_
    refine g_alen (v := nI (ux_ln k)) dX5_dropFrom_8 (by omega) rfl ?_
    refine g_iconst (v := 1) dX5_dropFrom_9 (by decide) ?_
    refine g_isub dX5_dropFrom_10 ?_
    refine g_icmp_ge (tgt := 28) dX5_dropFrom_11 (by decide) (fun c11 => ?_) (fun c11 => ?_)
    · have e : j = ux_ln k - 1 := by rw [e10] at c11; have := (nI_leI (Nat.lt_of_le_of_lt (Nat.sub_le _ _) (ux_ln_lt k)) (Nat.lt_of_le_of_lt hj (Nat.lt_of_le_of_lt (Nat.sub_le _ _) (ux_ln_lt k)))).mp c11; omega
      subst e
      refine g_return dX5_dropFrom_28 rfl (by decide) ?_
      exact ⟨rfl, rfl⟩
    · have hlt : j < ux_ln k - 1 := by rcases Nat.lt_or_ge j (ux_ln k - 1) with q | q; exact q; exact absurd (by rw [e10]; exact (nI_leI (Nat.lt_of_le_of_lt (Nat.sub_le _ _) (ux_ln_lt k)) (Nat.lt_of_le_of_lt hj (Nat.lt_of_le_of_lt (Nat.sub_le _ _) (ux_ln_lt k)))).mpr q) c11
      refine g_aload_n dX5_dropFrom_14 rfl ?_
      refine g_iload_n dX5_dropFrom_15 rfl ?_
      refine g_aload_n dX5_dropFrom_16 rfl ?_
      refine g_iload_n dX5_dropFrom_17 rfl ?_
      refine g_iconst (v := 1) dX5_dropFrom_18 (by decide) ?_
      refine g_iadd dX5_dropFrom_19 ?_
      refine g_iald dX5_dropFrom_20 hk (j := j + 1) (by omega) (nI_1 j) ?_
      refine g_iast dX5_dropFrom_21 hk (by omega) rfl ?_
      refine s_inc (v := nI (j + 1)) dX5_dropFrom_22 rfl (nI_1 j) rfl rfl rfl ?_
      dsimp only [List.set]
      refine g_goto (tgt := 6) dX5_dropFrom_25 (by decide) ?_
      rw [xdrop_s h hij]
      exact ih (j + 1) (by omega) (by omega) (by omega)
set_option maxRecDepth 100000 in
theorem mX5_dropFrom {l : Launch} {G : ux_G} {h : ux_H} {k i : Nat} (hk : ux_kd k = 10) (hi : i < ux_ln k) : ux_F l G yX5_dropFrom iX5_dropFrom 1 0 [.ref k, .int (nI i)] h (none) (xdrop h k i (ux_ln k - 1)) := by
  unfold ux_F
  refine ux_ent (L' := [some (.ref k), some (.int (nI i)), none]) kX5_dropFrom rfl rfl rfl rfl ?_
  refine g_iload_n dX5_dropFrom_0 rfl ?_
  refine g_iconst (v := 0) dX5_dropFrom_1 (by decide) ?_
  refine g_max xmax_X5_433 xmax_s xmath_i xmax_c dX5_dropFrom_2 rfl rfl ?_
  rw [if_neg (nI_pos (Nat.lt_trans hi (ux_ln_lt k)))]
  refine s_i (i := 2) dX5_dropFrom_5 rfl rfl rfl rfl ?_
  dsimp only [List.set]
  have := wX5_dropFrom (l := l) (G := G) (h := h) (i := i) hk (by omega) (ux_ln k + 1) i (Nat.le_refl _) (by omega) (by omega)
  rw [xdrop_0] at this
  exact this
set_option maxRecDepth 100000 in
theorem mX5_needIndex {l : Launch} {G : ux_G} {h : ux_H} {x n : Int32} : ux_M l G yX5_needIndex iX5_needIndex 2 1 [.int x, .int n] h (fun v h' => v = none ∧ h' = h ∧ (0 ≤ x ∧ x ≤ n - 1)) (fun E h' => E = "java/lang/IndexOutOfBoundsException" ∧ h' = h ∧ ¬ (0 ≤ x ∧ x ≤ n - 1)) := by
  refine ux_ent (L' := [some (.int x), some (.int n)]) kX5_needIndex rfl rfl rfl rfl ?_
  refine g_iload_n dX5_needIndex_0 rfl ?_
  refine g_iconst (v := 0) dX5_needIndex_1 (by decide) ?_
  refine g_iload_n dX5_needIndex_2 rfl ?_
  refine g_iconst (v := 1) dX5_needIndex_3 (by decide) ?_
  refine g_isub dX5_needIndex_4 ?_
  refine f1_S (u' := 0) lX5_328 kX5_isWithin (mX5_isWithin) dX5_needIndex_5 rfl rfl rfl rfl rfl rfl ?_
  refine g_if_ne (tgt := 22) dX5_needIndex_8 (by decide) (fun c8 => ?_) (fun c8 => ?_)
  · have q8 := (not_congr xb_0).mp c8
    refine g_return dX5_needIndex_22 rfl (by decide) ?_
    exact ⟨rfl, rfl, Decidable.not_not.mp q8⟩
  · have q8 := xb_0.mp c8
    refine g_throwW tX5_415_417 dX5_needIndex_11 dX5_needIndex_14 dX5_needIndex_15 dX5_needIndex_18 dX5_needIndex_21 rfl rfl (by decide) ?_
    exact ⟨rfl, rfl, q8⟩
set_option maxRecDepth 100000 in
theorem mX5_needRange {l : Launch} {G : ux_G} {h : ux_H} {x lo hi : Int32} : ux_M l G yX5_needRange iX5_needRange 2 1 [.int x, .int lo, .int hi] h (fun v h' => v = none ∧ h' = h ∧ (lo ≤ x ∧ x ≤ hi)) (fun E h' => E = "java/lang/IllegalArgumentException" ∧ h' = h ∧ ¬ (lo ≤ x ∧ x ≤ hi)) := by
  refine ux_ent (L' := [some (.int x), some (.int lo), some (.int hi)]) kX5_needRange rfl rfl rfl rfl ?_
  refine g_iload_n dX5_needRange_0 rfl ?_
  refine g_iload_n dX5_needRange_1 rfl ?_
  refine g_iload_n dX5_needRange_2 rfl ?_
  refine f1_S (u' := 0) lX5_328 kX5_isWithin (mX5_isWithin) dX5_needRange_3 rfl rfl rfl rfl rfl rfl ?_
  refine g_if_ne (tgt := 19) dX5_needRange_6 (by decide) (fun c6 => ?_) (fun c6 => ?_)
  · have q8 := (not_congr xb_0).mp c6
    refine g_return dX5_needRange_19 rfl (by decide) ?_
    exact ⟨rfl, rfl, Decidable.not_not.mp q8⟩
  · have q8 := xb_0.mp c6
    refine g_throw tX5_131_133 dX5_needRange_9 dX5_needRange_12 dX5_needRange_13 dX5_needRange_15 dX5_needRange_18 rfl rfl (by decide) ?_
    exact ⟨rfl, rfl, q8⟩
