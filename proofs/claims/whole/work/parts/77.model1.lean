/-! THE REFERENCE: its small reads. -/
theorem rM_l {c f j : Nat} {A : Ab} {h : ux_H} (hM : rM c 0 A h) (hf : (Nat.ble 8 f && Nat.ble f 15) = true) (hj : j < A.2.1) : xgi h c (56 + 8 * j + (f - 8)) = iI (aF A f j) := by
  have q : 8 ≤ f ∧ f ≤ 15 := by simpa using hf
  obtain ⟨w, rfl⟩ : ∃ w, f = w + 8 := ⟨f - 8, by omega⟩
  have := hM.2.2 (w + 8) j (Or.inr (Or.inr (Or.inr ⟨q.1, q.2, hj⟩)))
  rw [Nat.zero_add] at this
  rw [Nat.add_sub_cancel]
  exact this
def m_bw (f : Nat) : Nat := if f = 4 then 4 else if f = 5 then 3 else f - 1
theorem rM_t {c f j : Nat} {A : Ab} {h : ux_H} (hM : rM c 0 A h) (hf : (Nat.ble 1 f && Nat.ble f 5) = true) (hj : j < A.1) : xgi h c (16 + 5 * j + m_bw f) = iI (aF A f j) := by
  have q : 1 ≤ f ∧ f ≤ 5 := by simpa using hf
  have := hM.2.2 f j (Or.inr (Or.inl ⟨q.1, q.2, hj⟩))
  rw [Nat.zero_add] at this
  obtain h1 | h1 | h1 | h1 | h1 : f = 1 ∨ f = 2 ∨ f = 3 ∨ f = 4 ∨ f = 5 := by omega
  all_goals subst h1
  · exact this
  · rw [show 16 + 5 * j + m_bw 2 = 17 + 5 * j by simp [m_bw]; omega]; exact this
  · rw [show 16 + 5 * j + m_bw 3 = 18 + 5 * j by simp [m_bw]; omega]; exact this
  · rw [show 16 + 5 * j + m_bw 4 = 20 + 5 * j by simp [m_bw]; omega]; exact this
  · rw [show 16 + 5 * j + m_bw 5 = 19 + 5 * j by simp [m_bw]; omega]; exact this
theorem rM_z {c j : Nat} {A : Ab} {h : ux_H} (hM : rM c 0 A h) (hj : j < 6) : xgi h c (4 + j) = iI (aF A 6 j) := by
  have := hM.2.2 6 j (Or.inr (Or.inr (Or.inl ⟨by decide, by decide, hj⟩)))
  rw [Nat.zero_add] at this; exact this
theorem rM_c {c j : Nat} {A : Ab} {h : ux_H} (hM : rM c 0 A h) (hj : j < 6) : xgi h c (10 + j) = iI (aF A 7 j) := by
  have := hM.2.2 7 j (Or.inr (Or.inr (Or.inl ⟨by decide, by decide, hj⟩)))
  rw [Nat.zero_add] at this; exact this
theorem rM_0 {c j : Nat} {A : Ab} {h : ux_H} (hM : rM c 0 A h) (hj : j = 2 ∨ j = 3) : xgi h c j = iI (aF A 0 j) := by
  have := hM.2.2 0 j (Or.inl ⟨rfl, hj⟩)
  rw [Nat.zero_add] at this; exact this
theorem and_1 (y : Int32) : y &&& 1 = 1 ↔ ¬ y &&& 1 = 0 := by
  rw [← Int32.toBitVec_inj, ← Int32.toBitVec_inj, Int32.toBitVec_and]
  show y.toBitVec &&& 1#32 = 1#32 ↔ ¬ y.toBitVec &&& 1#32 = 0#32
  have h1 : (y.toBitVec &&& 1#32).toNat = y.toBitVec.toNat % 2 := by
    rw [BitVec.toNat_and]; exact Nat.and_one_is_mod _
  have e : y.toBitVec &&& 1#32 = BitVec.ofNat 32 (y.toBitVec.toNat % 2) :=
    BitVec.eq_of_toNat_eq (by rw [h1, BitVec.toNat_ofNat]; exact (Nat.mod_eq_of_lt (Nat.lt_of_lt_of_le (Nat.mod_lt _ (by decide)) (by decide))).symm)
  rw [e]
  rcases Nat.mod_two_eq_zero_or_one y.toBitVec.toNat with q | q <;> rw [q] <;> decide
theorem nb {p : Prop} [Decidable p] : narrow .boolean (.int (if p then (1 : Int32) else 0)) = .int (if p then 1 else 0) := by split <;> rfl
theorem in_0 {lo hi v : Int32} : ((if lo ≤ v ∧ v ≤ hi then (1 : Int32) else 0) = 0) ↔ ¬ (lo ≤ v ∧ v ≤ hi) := xb_0
set_option maxRecDepth 100000 in
theorem mX6_thrown {l : Launch} {G : ux_G} {h : ux_H}  : ux_F l G yX6_thrown iX6_thrown 1 0 [.ref 192] h (some (.int (xgi h 192 0))) (h) := by
  unfold ux_F
  refine ux_ent (L' := [some (.ref 192)]) kX6_thrown rfl rfl rfl rfl ?_
  refine g_aload_n dX6_thrown_0 rfl ?_
  refine g_geti fX6_44 dX6_thrown_1 rfl rfl ?_
  refine g_ireturn dX6_thrown_4 rfl rfl (by decide) ?_
  exact ⟨rfl, rfl⟩
set_option maxRecDepth 100000 in
theorem mX6_in {l : Launch} {G : ux_G} {h : ux_H} {v lo hi : Int32} : ux_F l G yX6_in iX6_in 1 0 [.int v, .int lo, .int hi] h (some (.int (if lo ≤ v ∧ v ≤ hi then 1 else 0))) (h) := by
  unfold ux_F
  refine ux_ent (L' := [some (.int v), some (.int lo), some (.int hi)]) kX6_in rfl rfl rfl rfl ?_
  refine g_iload_n dX6_in_0 rfl ?_
  refine g_iload_n dX6_in_1 rfl ?_
  refine g_icmp_lt (tgt := 14) dX6_in_2 (by decide) (fun c2 => ?_) (fun c2 => ?_)
  · rw [← Int32.not_le] at c2
    refine g_iconst (v := 0) dX6_in_14 (by decide) ?_
    refine g_ireturn dX6_in_15 rfl rfl (by decide) ?_
    exact ⟨by simp [c2], rfl⟩
  · rw [Int32.not_lt] at c2
    refine g_iload_n dX6_in_5 rfl ?_
    refine g_iload_n dX6_in_6 rfl ?_
    refine g_icmp_gt (tgt := 14) dX6_in_7 (by decide) (fun c7 => ?_) (fun c7 => ?_)
    · rw [← Int32.not_le] at c7
      refine g_iconst (v := 0) dX6_in_14 (by decide) ?_
      refine g_ireturn dX6_in_15 rfl rfl (by decide) ?_
      exact ⟨by simp [c2, c7], rfl⟩
    · rw [Int32.not_lt] at c7
      refine g_iconst (v := 1) dX6_in_10 (by decide) ?_
      refine g_goto (tgt := 15) dX6_in_11 (by decide) ?_
      refine g_ireturn dX6_in_15 rfl rfl (by decide) ?_
      exact ⟨by simp [c2, c7], rfl⟩
set_option maxRecDepth 100000 in
theorem mX6_raises {l : Launch} {G : ux_G} {h : ux_H} {c : Int32} : ux_F l G yX6_raises iX6_raises 1 0 [.ref 192, .int c] h (some (.int 0)) (xsi h 192 0 c) := by
  unfold ux_F
  refine ux_ent (L' := [some (.ref 192), some (.int c)]) kX6_raises rfl rfl rfl rfl ?_
  refine g_aload_n dX6_raises_0 rfl ?_
  refine g_iload_n dX6_raises_1 rfl ?_
  refine g_puti pX6_44 dX6_raises_2 rfl rfl ?_
  refine g_iconst (v := 0) dX6_raises_5 (by decide) ?_
  refine g_ireturn dX6_raises_6 rfl rfl (by decide) ?_
  exact ⟨rfl, rfl⟩
set_option maxRecDepth 100000 in
theorem mX6_teacherAt {l : Launch} {G : ux_G} {h : ux_H} {t : Nat} : ux_F l G yX6_teacherAt iX6_teacherAt 1 0 [.int (nI t)] h (some (.int (nI (16 + 5 * t)))) (h) := by
  unfold ux_F
  refine ux_ent (L' := [some (.int (nI t))]) kX6_teacherAt rfl rfl rfl rfl ?_
  refine g_bipush (v := 16) dX6_teacherAt_0 (by decide) ?_
  refine g_iconst (v := 5) dX6_teacherAt_2 (by decide) ?_
  refine g_iload_n dX6_teacherAt_3 rfl ?_
  refine g_imul dX6_teacherAt_4 ?_
  refine g_iadd dX6_teacherAt_5 ?_
  refine g_ireturn dX6_teacherAt_6 rfl rfl (by decide) ?_
  exact ⟨by rw [show (5 : Int32) = nI 5 by decide, pk_mul, show (16 : Int32) = nI 16 by decide, nI_add], rfl⟩
set_option maxRecDepth 100000 in
theorem mX6_lessonAt {l : Launch} {G : ux_G} {h : ux_H} {t : Nat} : ux_F l G yX6_lessonAt iX6_lessonAt 1 0 [.int (nI t)] h (some (.int (nI (56 + 8 * t)))) (h) := by
  unfold ux_F
  refine ux_ent (L' := [some (.int (nI t))]) kX6_lessonAt rfl rfl rfl rfl ?_
  refine g_bipush (v := 56) dX6_lessonAt_0 (by decide) ?_
  refine g_bipush (v := 8) dX6_lessonAt_2 (by decide) ?_
  refine g_iload_n dX6_lessonAt_4 rfl ?_
  refine g_imul dX6_lessonAt_5 ?_
  refine g_iadd dX6_lessonAt_6 ?_
  refine g_ireturn dX6_lessonAt_7 rfl rfl (by decide) ?_
  exact ⟨by rw [show (8 : Int32) = nI 8 by decide, pk_mul, show (56 : Int32) = nI 56 by decide, nI_add], rfl⟩
set_option maxRecDepth 100000 in
theorem mX6_of {l : Launch} {G : ux_G} {h : ux_H} {f l9 : Nat} {A : Ab} (hM : rM 193 0 A h) (i2 : A.2.1 ≤ 40) (hf : (Nat.ble 8 f && Nat.ble f 15) = true) (hl : l9 < A.2.1) : ux_F l G yX6_of iX6_of 2 0 [.ref 192, .int (nI l9), .int (nI (f - 8))] h (some (.int (iI (aF A f l9)))) (h) := by
  unfold ux_F
  refine ux_ent (L' := [some (.ref 192), some (.int (nI l9)), some (.int (nI (f - 8)))]) kX6_of rfl rfl rfl rfl ?_
  have q1 : 8 ≤ f ∧ f ≤ 15 := by simpa using hf
  refine g_aload_n dX6_of_0 rfl ?_
  refine g_getr (q := 193) fX6_9 dX6_of_1 rfl rfl rfl ?_
  refine g_iload_n dX6_of_4 rfl ?_
  refine f1_S (u' := 0) lX6_47 kX6_lessonAt (mX6_lessonAt) dX6_of_5 rfl rfl rfl rfl rfl rfl ?_
  refine g_iload_n dX6_of_8 rfl ?_
  refine g_iadd dX6_of_9 ?_
  refine g_top (y := nI (56 + 8 * l9 + (f - 8))) (nI_add _ _) ?_
  refine g_iald dX6_of_10 rfl (show 56 + 8 * l9 + (f - 8) < 376 by omega) rfl ?_
  refine g_ireturn dX6_of_11 rfl rfl (by decide) ?_
  exact ⟨by rw [rM_l hM hf hl], rfl⟩
set_option maxRecDepth 100000 in
theorem mX6_by {l : Launch} {G : ux_G} {h : ux_H} {f t : Nat} {A : Ab} (hM : rM 193 0 A h) (i1 : A.1 ≤ 8) (hf : (Nat.ble 1 f && Nat.ble f 5) = true) (ht : t < A.1) : ux_F l G yX6_by iX6_by 2 0 [.ref 192, .int (nI t), .int (nI (m_bw f))] h (some (.int (iI (aF A f t)))) (h) := by
  unfold ux_F
  refine ux_ent (L' := [some (.ref 192), some (.int (nI t)), some (.int (nI (m_bw f)))]) kX6_by rfl rfl rfl rfl ?_
  have q1 : 1 ≤ f ∧ f ≤ 5 := by simpa using hf
  have q2 : m_bw f ≤ 4 := by unfold m_bw; split; omega; split <;> omega
  refine g_aload_n dX6_by_0 rfl ?_
  refine g_getr (q := 193) fX6_9 dX6_by_1 rfl rfl rfl ?_
  refine g_iload_n dX6_by_4 rfl ?_
  refine f1_S (u' := 0) lX6_51 kX6_teacherAt (mX6_teacherAt) dX6_by_5 rfl rfl rfl rfl rfl rfl ?_
  refine g_iload_n dX6_by_8 rfl ?_
  refine g_iadd dX6_by_9 ?_
  refine g_top (y := nI (16 + 5 * t + m_bw f)) (nI_add _ _) ?_
  refine g_iald dX6_by_10 rfl (show 16 + 5 * t + m_bw f < 376 by omega) rfl ?_
  refine g_ireturn dX6_by_11 rfl rfl (by decide) ?_
  exact ⟨by rw [rM_t hM hf ht], rfl⟩
set_option maxRecDepth 100000 in
theorem mX6_lessons {l : Launch} {G : ux_G} {h : ux_H} {A : Ab} (hM : rM 193 0 A h) : ux_F l G yX6_lessons iX6_lessons 1 0 [.ref 192] h (some (.int (nI A.2.1))) (h) := by
  unfold ux_F
  refine ux_ent (L' := [some (.ref 192)]) kX6_lessons rfl rfl rfl rfl ?_
  refine g_aload_n dX6_lessons_0 rfl ?_
  refine g_getr (q := 193) fX6_9 dX6_lessons_1 rfl rfl rfl ?_
  refine g_iconst (v := 1) dX6_lessons_4 (by decide) ?_
  refine g_iald dX6_lessons_5 (j := 1) rfl (show 1 < 376 by decide) rfl ?_
  refine g_ireturn dX6_lessons_6 rfl rfl (by decide) ?_
  exact ⟨by rw [show xgi h 193 1 = nI A.2.1 from hM.2.1], rfl⟩
set_option maxRecDepth 100000 in
theorem mX6_teachers {l : Launch} {G : ux_G} {h : ux_H} {A : Ab} (hM : rM 193 0 A h) : ux_F l G yX6_teachers iX6_teachers 1 0 [.ref 192] h (some (.int (nI A.1))) (h) := by
  unfold ux_F
  refine ux_ent (L' := [some (.ref 192)]) kX6_teachers rfl rfl rfl rfl ?_
  refine g_aload_n dX6_teachers_0 rfl ?_
  refine g_getr (q := 193) fX6_9 dX6_teachers_1 rfl rfl rfl ?_
  refine g_iconst (v := 0) dX6_teachers_4 (by decide) ?_
  refine g_iald dX6_teachers_5 (j := 0) rfl (show 0 < 376 by decide) rfl ?_
  refine g_ireturn dX6_teachers_6 rfl rfl (by decide) ?_
  exact ⟨by rw [show xgi h 193 0 = nI A.1 from hM.1], rfl⟩
set_option maxRecDepth 100000 in
theorem mX6_isLesson {l : Launch} {G : ux_G} {h : ux_H} {a : Int} {A : Ab} (hM : rM 193 0 A h) (i2 : A.2.1 ≤ 40) (ra : -2147483648 ≤ a ∧ a ≤ 2147483647) : ux_F l G yX6_isLesson iX6_isLesson 2 0 [.ref 192, .int (iI a)] h (some (.int (if 0 ≤ a ∧ a < A.2.1 then 1 else 0))) (h) := by
  unfold ux_F
  refine ux_ent (L' := [some (.ref 192), some (.int (iI a))]) kX6_isLesson rfl rfl rfl rfl ?_
  refine g_iload_n dX6_isLesson_0 rfl ?_
  refine g_iconst (v := 0) dX6_isLesson_1 (by decide) ?_
  refine g_aload_n dX6_isLesson_2 rfl ?_
  refine f1_V (u' := 0) lX6_54 kX6_lessons (mX6_lessons hM) dX6_isLesson_3 rfl rfl rfl rfl rfl rfl rfl rfl ?_
  refine g_iconst (v := 1) dX6_isLesson_6 (by decide) ?_
  refine g_isub dX6_isLesson_7 ?_
  refine f1_S (u' := 0) lX6_58 kX6_in (mX6_in) dX6_isLesson_8 rfl rfl rfl rfl rfl rfl ?_
  refine g_ireturn dX6_isLesson_11 rfl nb (by decide) ?_
  exact ⟨by simp only [x_ix (a := a) (n := A.2.1) rfl ra (by omega)], rfl⟩
set_option maxRecDepth 100000 in
theorem mX6_isTeacher {l : Launch} {G : ux_G} {h : ux_H} {a : Int} {A : Ab} (hM : rM 193 0 A h) (i1 : A.1 ≤ 8) (ra : -2147483648 ≤ a ∧ a ≤ 2147483647) : ux_F l G yX6_isTeacher iX6_isTeacher 2 0 [.ref 192, .int (iI a)] h (some (.int (if 0 ≤ a ∧ a < A.1 then 1 else 0))) (h) := by
  unfold ux_F
  refine ux_ent (L' := [some (.ref 192), some (.int (iI a))]) kX6_isTeacher rfl rfl rfl rfl ?_
  refine g_iload_n dX6_isTeacher_0 rfl ?_
  refine g_iconst (v := 0) dX6_isTeacher_1 (by decide) ?_
  refine g_aload_n dX6_isTeacher_2 rfl ?_
  refine f1_V (u' := 0) lX6_62 kX6_teachers (mX6_teachers hM) dX6_isTeacher_3 rfl rfl rfl rfl rfl rfl rfl rfl ?_
  refine g_iconst (v := 1) dX6_isTeacher_6 (by decide) ?_
  refine g_isub dX6_isTeacher_7 ?_
  refine f1_S (u' := 0) lX6_58 kX6_in (mX6_in) dX6_isTeacher_8 rfl rfl rfl rfl rfl rfl ?_
  refine g_ireturn dX6_isTeacher_11 rfl nb (by decide) ?_
  exact ⟨by simp only [x_ix (a := a) (n := A.1) rfl ra (by omega)], rfl⟩
set_option maxRecDepth 100000 in
theorem mX6_isSlot {l : Launch} {G : ux_G} {h : ux_H} {a : Int} (ra : -2147483648 ≤ a ∧ a ≤ 2147483647) : ux_F l G yX6_isSlot iX6_isSlot 2 0 [.int (iI a)] h (some (.int (if 0 ≤ a ∧ a < 30 then 1 else 0))) (h) := by
  unfold ux_F
  refine ux_ent (L' := [some (.int (iI a))]) kX6_isSlot rfl rfl rfl rfl ?_
  refine g_iload_n dX6_isSlot_0 rfl ?_
  refine g_iconst (v := 0) dX6_isSlot_1 (by decide) ?_
  refine g_bipush (v := 29) dX6_isSlot_2 (by decide) ?_
  refine f1_S (u' := 0) lX6_58 kX6_in (mX6_in) dX6_isSlot_4 rfl rfl rfl rfl rfl rfl ?_
  refine g_ireturn dX6_isSlot_7 rfl nb (by decide) ?_
  exact ⟨by simp only [x_rg (a := a) (lo := 0) (hi := 29) (k1 := 0) (k2 := 29) (by decide) (by decide) ra (by decide) (by decide), show a ≤ 29 ↔ a < 30 by omega], rfl⟩
set_option maxRecDepth 100000 in
theorem mX6_isSix {l : Launch} {G : ux_G} {h : ux_H} {a : Int} (ra : -2147483648 ≤ a ∧ a ≤ 2147483647) : ux_F l G yX6_isSix iX6_isSix 2 0 [.int (iI a)] h (some (.int (if 0 ≤ a ∧ a < 6 then 1 else 0))) (h) := by
  unfold ux_F
  refine ux_ent (L' := [some (.int (iI a))]) kX6_isSix rfl rfl rfl rfl ?_
  refine g_iload_n dX6_isSix_0 rfl ?_
  refine g_iconst (v := 0) dX6_isSix_1 (by decide) ?_
  refine g_iconst (v := 5) dX6_isSix_2 (by decide) ?_
  refine f1_S (u' := 0) lX6_58 kX6_in (mX6_in) dX6_isSix_3 rfl rfl rfl rfl rfl rfl ?_
  refine g_ireturn dX6_isSix_6 rfl nb (by decide) ?_
  exact ⟨by simp only [x_rg (a := a) (lo := 0) (hi := 5) (k1 := 0) (k2 := 5) (by decide) (by decide) ra (by decide) (by decide), show a ≤ 5 ↔ a < 6 by omega], rfl⟩
set_option maxRecDepth 100000 in
theorem mX6_isDay {l : Launch} {G : ux_G} {h : ux_H} {a : Int} (ra : -2147483648 ≤ a ∧ a ≤ 2147483647) : ux_F l G yX6_isDay iX6_isDay 2 0 [.int (iI a)] h (some (.int (if 0 ≤ a ∧ a < 5 then 1 else 0))) (h) := by
  unfold ux_F
  refine ux_ent (L' := [some (.int (iI a))]) kX6_isDay rfl rfl rfl rfl ?_
  refine g_iload_n dX6_isDay_0 rfl ?_
  refine g_iconst (v := 0) dX6_isDay_1 (by decide) ?_
  refine g_iconst (v := 4) dX6_isDay_2 (by decide) ?_
  refine f1_S (u' := 0) lX6_58 kX6_in (mX6_in) dX6_isDay_3 rfl rfl rfl rfl rfl rfl ?_
  refine g_ireturn dX6_isDay_6 rfl nb (by decide) ?_
  exact ⟨by simp only [x_rg (a := a) (lo := 0) (hi := 4) (k1 := 0) (k2 := 4) (by decide) (by decide) ra (by decide) (by decide), show a ≤ 4 ↔ a < 5 by omega], rfl⟩
set_option maxRecDepth 100000 in
theorem mX6_has {l : Launch} {G : ux_G} {h : ux_H} {x k : Int} : ux_F l G yX6_has iX6_has 1 0 [.int (iI x), .int (iI k)] h (some (.int (if s_bit x k then 1 else 0))) (h) := by
  unfold ux_F
  refine ux_ent (L' := [some (.int (iI x)), some (.int (iI k))]) kX6_has rfl rfl rfl rfl ?_
  refine g_iload_n dX6_has_0 rfl ?_
  refine g_iload_n dX6_has_1 rfl ?_
  refine g_ishr dX6_has_2 ?_
  refine g_iconst (v := 1) dX6_has_3 (by decide) ?_
  refine g_iand dX6_has_4 ?_
  refine g_iconst (v := 1) dX6_has_5 (by decide) ?_
  refine g_icmp_ne (tgt := 13) dX6_has_6 (by decide) (fun c6 => ?_) (fun c6 => ?_)
  · have q := (s_bit_0 rfl rfl).mp (Decidable.not_not.mp (mt (and_1 _).mpr c6))
    refine g_iconst (v := 0) dX6_has_13 (by decide) ?_
    refine g_ireturn dX6_has_14 rfl rfl (by decide) ?_
    exact ⟨by simp [q], rfl⟩
  · have q := Decidable.not_not.mp (mt (s_bit_0 (x := x) (k := k) rfl rfl).mpr ((and_1 _).mp c6))
    refine g_iconst (v := 1) dX6_has_9 (by decide) ?_
    refine g_goto (tgt := 14) dX6_has_10 (by decide) ?_
    refine g_ireturn dX6_has_14 rfl rfl (by decide) ?_
    exact ⟨by simp [q], rfl⟩
set_option maxRecDepth 100000 in
theorem mX6_isAway {l : Launch} {G : ux_G} {h : ux_H} {t : Nat} {s : Int} {A : Ab} {P : Nat} (hM : rM 193 0 A h) (hI : Inv P A) (ht : t < A.1) : ux_F l G yX6_isAway iX6_isAway 3 0 [.ref 192, .int (nI t), .int (iI s)] h (some (.int (if s_away A t s then 1 else 0))) (h) := by
  unfold ux_F
  refine ux_ent (L' := [some (.ref 192), some (.int (nI t)), some (.int (iI s))]) kX6_isAway rfl rfl rfl rfl ?_
  obtain ⟨i1, i2, i3, i4, i5, i6⟩ := id hI
  refine g_aload_n dX6_isAway_0 rfl ?_
  refine g_iload_n dX6_isAway_1 rfl ?_
  refine g_iconst (v := 3) dX6_isAway_2 (by decide) ?_
  refine f1_V (u' := 0) lX6_70 kX6_by (mX6_by (f := 5) hM (by omega) rfl (by assumption)) dX6_isAway_3 rfl rfl rfl rfl rfl rfl rfl rfl ?_
  refine g_iload_n dX6_isAway_6 rfl ?_
  refine f1_S (u' := 0) lX6_74 kX6_has (mX6_has) dX6_isAway_7 rfl rfl rfl rfl rfl rfl ?_
  refine g_ireturn dX6_isAway_10 rfl nb (by decide) ?_
  exact ⟨rfl, rfl⟩
set_option maxRecDepth 100000 in
theorem mX6_state {l : Launch} {G : ux_G} {h : ux_H} {i : Nat} {A : Ab} {P : Nat} (hM : rM 193 0 A h) (hI : Inv P A) (hi : i < A.2.1) : ux_F l G yX6_state iX6_state 4 0 [.ref 192, .int (nI i)] h (some (.int (iI (s_st A i)))) (h) := by
  unfold ux_F
  refine ux_ent (L' := [some (.ref 192), some (.int (nI i))]) kX6_state rfl rfl rfl rfl ?_
  obtain ⟨i1, i2, i3, i4, i5, i6⟩ := id hI
  have il := i6 i hi
  have ho : s_own A i < A.1 := by unfold s_own; omega
  refine g_aload_n dX6_state_0 rfl ?_
  refine g_aload_n dX6_state_1 rfl ?_
  refine g_iload_n dX6_state_2 rfl ?_
  refine g_iconst (v := 3) dX6_state_3 (by decide) ?_
  refine f1_V (u' := 0) lX6_78 kX6_of (mX6_of (f := 11) hM (by omega) rfl (by assumption)) dX6_state_4 rfl rfl rfl rfl rfl rfl rfl rfl ?_
  refine g_top (y := nI (s_own A i)) (iI_get (by omega) (by omega)) ?_
  refine g_aload_n dX6_state_7 rfl ?_
  refine g_iload_n dX6_state_8 rfl ?_
  refine g_iconst (v := 0) dX6_state_9 (by decide) ?_
  refine f1_V (u' := 0) lX6_78 kX6_of (mX6_of (f := 8) hM (by omega) rfl (by assumption)) dX6_state_10 rfl rfl rfl rfl rfl rfl rfl rfl ?_
  refine f1_V (u' := 0) lX6_81 kX6_isAway (mX6_isAway hM hI (by assumption)) dX6_state_13 rfl rfl rfl rfl rfl rfl rfl rfl ?_
  refine g_if_ne (tgt := 21) dX6_state_16 (by decide) (fun c16 => ?_) (fun c16 => ?_)
  · have q1 : s_gone A i = true := xb_n0 c16
    refine g_aload_n dX6_state_21 rfl ?_
    refine g_iload_n dX6_state_22 rfl ?_
    refine g_iconst (v := 5) dX6_state_23 (by decide) ?_
    refine f1_V (u' := 0) lX6_78 kX6_of (mX6_of (f := 13) hM (by omega) rfl (by assumption)) dX6_state_24 rfl rfl rfl rfl rfl rfl rfl rfl ?_
    refine g_iconst (v := (-1)) dX6_state_27 (by decide) ?_
    refine g_icmp_eq (tgt := 35) dX6_state_28 (by decide) (fun c28 => ?_) (fun c28 => ?_)
    · rw [xqm (by omega) (by omega)] at c28
      refine g_aload_n dX6_state_35 rfl ?_
      refine g_iload_n dX6_state_36 rfl ?_
      refine g_bipush (v := 6) dX6_state_37 (by decide) ?_
      refine f1_V (u' := 0) lX6_78 kX6_of (mX6_of (f := 14) hM (by omega) rfl (by assumption)) dX6_state_39 rfl rfl rfl rfl rfl rfl rfl rfl ?_
      refine g_iconst (v := (-1)) dX6_state_42 (by decide) ?_
      refine g_icmp_eq (tgt := 50) dX6_state_43 (by decide) (fun c43 => ?_) (fun c43 => ?_)
      · rw [xqm (by omega) (by omega)] at c43
        refine g_iconst (v := 3) dX6_state_50 (by decide) ?_
        refine g_ireturn dX6_state_51 rfl rfl (by decide) ?_
        exact ⟨by unfold s_st; simp [q1, c28, c43]; try rfl, rfl⟩
      · rw [xqm (by omega) (by omega)] at c43
        refine g_iconst (v := 2) dX6_state_46 (by decide) ?_
        refine g_goto (tgt := 51) dX6_state_47 (by decide) ?_
        refine g_ireturn dX6_state_51 rfl rfl (by decide) ?_
        exact ⟨by unfold s_st; simp [q1, c28, c43]; try rfl, rfl⟩
    · rw [xqm (by omega) (by omega)] at c28
      refine g_iconst (v := 1) dX6_state_31 (by decide) ?_
      refine g_goto (tgt := 51) dX6_state_32 (by decide) ?_
      refine g_ireturn dX6_state_51 rfl rfl (by decide) ?_
      exact ⟨by unfold s_st; simp [q1, c28]; try rfl, rfl⟩
  · have q1 : ¬ s_gone A i = true := xb_0.mp c16
    refine g_iconst (v := 0) dX6_state_19 (by decide) ?_
    refine g_ireturn dX6_state_20 rfl rfl (by decide) ?_
    exact ⟨by unfold s_st; simp [q1]; try rfl, rfl⟩
theorem act_0 {A : Ab} {i : Nat} (h : s_st A i = 0) : s_act A i = aF A 11 i := by
  unfold s_st at h; unfold s_act
  cases hgo : s_gone A i
  · rfl
  · rw [hgo] at h
    by_cases q : aF A 13 i = -1
    · by_cases q2 : aF A 14 i = -1 <;> simp [q, q2] at h
    · simp [q] at h
theorem act_1 {A : Ab} {i : Nat} (h : s_st A i = 1) : s_act A i = aF A 13 i := by
  unfold s_st at h; unfold s_act
  cases hgo : s_gone A i
  · rw [hgo] at h; simp at h
  · rfl
theorem act_n {A : Ab} {i : Nat} (h0 : ¬ s_st A i = 0) (h1 : ¬ s_st A i = 1) : s_act A i = -1 := by
  unfold s_st at h0 h1; unfold s_act
  cases hgo : s_gone A i
  · rw [hgo] at h0; simp at h0
  · rw [hgo] at h0 h1
    by_cases q : aF A 13 i = -1
    · exact q
    · simp [q] at h1
set_option maxRecDepth 100000 in
theorem mX6_acting {l : Launch} {G : ux_G} {h : ux_H} {i : Nat} {A : Ab} {P : Nat} (hM : rM 193 0 A h) (hI : Inv P A) (hi : i < A.2.1) : ux_F l G yX6_acting iX6_acting 5 0 [.ref 192, .int (nI i)] h (some (.int (iI (s_act A i)))) (h) := by
  unfold ux_F
  refine ux_ent (L' := [some (.ref 192), some (.int (nI i))]) kX6_acting rfl rfl rfl rfl ?_
  obtain ⟨i1, i2, i3, i4, i5, i6⟩ := id hI
  have il := i6 i hi
  have hr := s_st_r A i
  refine g_aload_n dX6_acting_0 rfl ?_
  refine g_iload_n dX6_acting_1 rfl ?_
  refine f1_V (u' := 0) lX6_84 kX6_state (mX6_state hM hI (by assumption)) dX6_acting_2 rfl rfl rfl rfl rfl rfl rfl rfl ?_
  refine g_if_ne (tgt := 17) dX6_acting_5 (by decide) (fun c5 => ?_) (fun c5 => ?_)
  · rw [xq0 (by omega) (by omega)] at c5
    refine g_aload_n dX6_acting_17 rfl ?_
    refine g_iload_n dX6_acting_18 rfl ?_
    refine f1_V (u' := 0) lX6_84 kX6_state (mX6_state hM hI (by assumption)) dX6_acting_19 rfl rfl rfl rfl rfl rfl rfl rfl ?_
    refine g_iconst (v := 1) dX6_acting_22 (by decide) ?_
    refine g_icmp_ne (tgt := 35) dX6_acting_23 (by decide) (fun c23 => ?_) (fun c23 => ?_)
    · rw [show (1 : Int32) = iI 1 by decide, iI_eq (by omega) (by omega) (by omega) (by omega)] at c23
      refine g_iconst (v := (-1)) dX6_acting_35 (by decide) ?_
      refine g_ireturn dX6_acting_36 rfl rfl (by decide) ?_
      exact ⟨by first | rw [act_0 c5] | rw [act_1 c23] | (rw [act_n c5 c23]; rfl), rfl⟩
    · rw [show (1 : Int32) = iI 1 by decide, iI_eq (by omega) (by omega) (by omega) (by omega)] at c23
      refine g_aload_n dX6_acting_26 rfl ?_
      refine g_iload_n dX6_acting_27 rfl ?_
      refine g_iconst (v := 5) dX6_acting_28 (by decide) ?_
      refine f1_V (u' := 0) lX6_78 kX6_of (mX6_of (f := 13) hM (by omega) rfl (by assumption)) dX6_acting_29 rfl rfl rfl rfl rfl rfl rfl rfl ?_
      refine g_goto (tgt := 36) dX6_acting_32 (by decide) ?_
      refine g_ireturn dX6_acting_36 rfl rfl (by decide) ?_
      exact ⟨by first | rw [act_0 c5] | rw [act_1 c23] | (rw [act_n c5 c23]; rfl), rfl⟩
  · rw [xq0 (by omega) (by omega)] at c5
    refine g_aload_n dX6_acting_8 rfl ?_
    refine g_iload_n dX6_acting_9 rfl ?_
    refine g_iconst (v := 3) dX6_acting_10 (by decide) ?_
    refine f1_V (u' := 0) lX6_78 kX6_of (mX6_of (f := 11) hM (by omega) rfl (by assumption)) dX6_acting_11 rfl rfl rfl rfl rfl rfl rfl rfl ?_
    refine g_goto (tgt := 36) dX6_acting_14 (by decide) ?_
    refine g_ireturn dX6_acting_36 rfl rfl (by decide) ?_
    exact ⟨by first | rw [act_0 c5] | rw [act_1 c23] | (rw [act_n c5 c23]; rfl), rfl⟩
