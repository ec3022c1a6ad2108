/-! THE LAW: its calls of the class, with what they catch. -/
theorem lkIAE : Cond.classLink RL 13 "java/lang/IllegalArgumentException" ∈ ux_T := ux_mem (n := 473) (by decide +kernel) (by decide +kernel)
theorem ctIAE : Cond.castable "java/lang/IllegalArgumentException" "java/lang/IllegalArgumentException" ∈ ux_N := ux_memN (n := 487) (by decide +kernel) (by decide +kernel)
theorem lkISE : Cond.classLink RL 15 "java/lang/IllegalStateException" ∈ ux_T := ux_mem (n := 474) (by decide +kernel) (by decide +kernel)
theorem ctISE : Cond.castable "java/lang/IllegalStateException" "java/lang/IllegalStateException" ∈ ux_N := ux_memN (n := 559) (by decide +kernel) (by decide +kernel)
theorem lkIOB : Cond.classLink RL 20 "java/lang/IndexOutOfBoundsException" ∈ ux_T := ux_mem (n := 595) (by decide +kernel) (by decide +kernel)
theorem ctIOB : Cond.castable "java/lang/IndexOutOfBoundsException" "java/lang/IndexOutOfBoundsException" ∈ ux_N := ux_memN (n := 632) (by decide +kernel) (by decide +kernel)
theorem lkUOE : Cond.classLink RL 32 "java/lang/UnsupportedOperationException" ∈ ux_T := ux_mem (n := 698) (by decide +kernel) (by decide +kernel)
theorem ctUOE : Cond.castable "java/lang/UnsupportedOperationException" "java/lang/UnsupportedOperationException" ∈ ux_N := ux_memN (n := 714) (by decide +kernel) (by decide +kernel)
theorem lkNSE : Cond.classLink RL 53 "java/util/NoSuchElementException" ∈ ux_T := ux_mem (n := 854) (by decide +kernel) (by decide +kernel)
theorem ctNSE : Cond.castable "java/util/NoSuchElementException" "java/util/NoSuchElementException" ∈ ux_N := ux_memN (n := 862) (by decide +kernel) (by decide +kernel)
theorem lkARE : Cond.classLink RL 130 "java/lang/ArithmeticException" ∈ ux_T := ux_mem (n := 1187) (by decide +kernel) (by decide +kernel)
theorem ctARE : Cond.castable "java/lang/ArithmeticException" "java/lang/ArithmeticException" ∈ ux_N := ux_memN (n := 1199) (by decide +kernel) (by decide +kernel)
/-- how a call of the class ends in the law: 0 and the answer stands in the row, or the place of what was caught -/
def QW (Q : Option Value → ux_H → Prop) (X : String → ux_H → Prop) (Es : List String) (v : Option Value) (h' : ux_H) : Prop := (v = some (.int 0) ∧ ∃ z h1, Q (some (.int z)) h1 ∧ h' = xsv h1 202 0 (.long z.toInt64)) ∨ (∃ k E, Es[k]? = some E ∧ v = some (.int (nI (k + 1))) ∧ X E h')
def QWD (Q : Option Value → ux_H → Prop) (X : String → ux_H → Prop) (Es : List String) (v : Option Value) (h' : ux_H) : Prop := (v = some (.int 0) ∧ ∃ z h1, Q (some (.double z)) h1 ∧ h' = xsv h1 203 0 (.double z)) ∨ (∃ k E, Es[k]? = some E ∧ v = some (.int (nI (k + 1))) ∧ X E h')
set_option maxRecDepth 100000 in
theorem mL_addTeacher {l : Launch} {G : ux_G} {h : ux_H} {a b : Int32} {Q : Option Value → ux_H → Prop} {X : String → ux_H → Prop} (hM : ux_M l G yX5_addTeacher iX5_addTeacher 5 3 [.ref 176, .int a, .int b] h Q X) (hv : ∀ v h', Q v h' → ∃ z, v = some (.int z)) (hE : ∀ E h', X E h' → E = "java/lang/IllegalArgumentException" ∨ E = "java/lang/IllegalStateException") : ux_M l G yL_addTeacher iL_addTeacher 6 3 [.ref 176, .int a, .int b, .ref 202] h (QW Q X ["java/lang/IllegalArgumentException", "java/lang/IllegalStateException"]) (fun _ _ => False) := by
  refine ux_entX (L' := [some (.ref 176), some (.int a), some (.int b), some (.ref 202), none]) kL_addTeacher (List.cons_ne_nil _ _) rfl rfl rfl ?_
  refine g_aload_n dL_addTeacher_0 rfl ?_
  refine g_iconst (v := 0) dL_addTeacher_1 (by decide) ?_
  refine g_aload_n dL_addTeacher_2 rfl ?_
  refine g_iload_n dL_addTeacher_3 rfl ?_
  refine g_iload_n dL_addTeacher_4 rfl ?_
  refine q_V (u' := 3) lL_7 kX5_addTeacher (hM) dL_addTeacher_5 rfl rfl rfl rfl rfl rfl rfl rfl (fun v h5 hq => ?_) (fun E hx q => ?_)
  obtain ⟨z, rfl⟩ := hv _ _ hq
  dsimp only [Option.toList, List.cons_append, List.nil_append]
  refine g_i2l dL_addTeacher_8 ?_
  refine g_last dL_addTeacher_9 rfl (show 0 < 1 by decide) rfl ?_
  refine g_goto (tgt := 21) dL_addTeacher_10 (by decide) ?_
  refine g_iconst (v := 0) dL_addTeacher_21 (by decide) ?_
  refine g_ireturn dL_addTeacher_22 rfl rfl (by decide) ?_
  exact Or.inl ⟨rfl, z, _, hq, rfl⟩
  rcases hE _ _ q with rfl | rfl
  · refine g_catch (E := "java/lang/IllegalArgumentException") (name := "java/lang/IllegalArgumentException") (pre := []) (x := (0, 10, 13, 13)) (suf := [(0, 10, 17, 15)]) rfl (by decide) ctIAE (fun z hz => absurd hz (by simp)) rfl (by decide) lkIAE (fun q9 => ?_)
    refine s_aw dL_addTeacher_13 rfl rfl rfl ?_
    dsimp only [List.set]
    refine g_iconst (v := 1) dL_addTeacher_15 (by decide) ?_
    refine g_ireturn dL_addTeacher_16 rfl rfl (by decide) ?_
    exact Or.inr ⟨0, _, rfl, rfl, q⟩
  · refine g_catch (E := "java/lang/IllegalStateException") (name := "java/lang/IllegalStateException") (pre := [(0, 10, 13, 13)]) (x := (0, 10, 17, 15)) (suf := []) rfl (by decide) ctISE (by intro z hz; simp only [List.mem_cons, List.not_mem_nil, or_false] at hz; rcases hz with rfl <;> first | exact ⟨by decide, _, lkIAE, by decide, by decide⟩) rfl (by decide) lkISE (fun q9 => ?_)
    refine s_aw dL_addTeacher_17 rfl rfl rfl ?_
    dsimp only [List.set]
    refine g_iconst (v := 2) dL_addTeacher_19 (by decide) ?_
    refine g_ireturn dL_addTeacher_20 rfl rfl (by decide) ?_
    exact Or.inr ⟨1, _, rfl, rfl, q⟩
set_option maxRecDepth 100000 in
theorem mL_setLimit {l : Launch} {G : ux_G} {h : ux_H} {a b : Int32} {Q : Option Value → ux_H → Prop} {X : String → ux_H → Prop} (hM : ux_M l G yX5_setLimit iX5_setLimit 5 3 [.ref 176, .int a, .int b] h Q X) (hv : ∀ v h', Q v h' → ∃ z, v = some (.int z)) (hE : ∀ E h', X E h' → E = "java/lang/IndexOutOfBoundsException" ∨ E = "java/lang/IllegalArgumentException") : ux_M l G yL_setLimit iL_setLimit 6 3 [.ref 176, .int a, .int b, .ref 202] h (QW Q X ["java/lang/IndexOutOfBoundsException", "java/lang/IllegalArgumentException"]) (fun _ _ => False) := by
  refine ux_entX (L' := [some (.ref 176), some (.int a), some (.int b), some (.ref 202), none]) kL_setLimit (List.cons_ne_nil _ _) rfl rfl rfl ?_
  refine g_aload_n dL_setLimit_0 rfl ?_
  refine g_iconst (v := 0) dL_setLimit_1 (by decide) ?_
  refine g_aload_n dL_setLimit_2 rfl ?_
  refine g_iload_n dL_setLimit_3 rfl ?_
  refine g_iload_n dL_setLimit_4 rfl ?_
  refine q_V (u' := 3) lL_17 kX5_setLimit (hM) dL_setLimit_5 rfl rfl rfl rfl rfl rfl rfl rfl (fun v h5 hq => ?_) (fun E hx q => ?_)
  obtain ⟨z, rfl⟩ := hv _ _ hq
  dsimp only [Option.toList, List.cons_append, List.nil_append]
  refine g_i2l dL_setLimit_8 ?_
  refine g_last dL_setLimit_9 rfl (show 0 < 1 by decide) rfl ?_
  refine g_goto (tgt := 21) dL_setLimit_10 (by decide) ?_
  refine g_iconst (v := 0) dL_setLimit_21 (by decide) ?_
  refine g_ireturn dL_setLimit_22 rfl rfl (by decide) ?_
  exact Or.inl ⟨rfl, z, _, hq, rfl⟩
  rcases hE _ _ q with rfl | rfl
  · refine g_catch (E := "java/lang/IndexOutOfBoundsException") (name := "java/lang/IndexOutOfBoundsException") (pre := []) (x := (0, 10, 13, 20)) (suf := [(0, 10, 17, 13)]) rfl (by decide) ctIOB (fun z hz => absurd hz (by simp)) rfl (by decide) lkIOB (fun q9 => ?_)
    refine s_aw dL_setLimit_13 rfl rfl rfl ?_
    dsimp only [List.set]
    refine g_iconst (v := 1) dL_setLimit_15 (by decide) ?_
    refine g_ireturn dL_setLimit_16 rfl rfl (by decide) ?_
    exact Or.inr ⟨0, _, rfl, rfl, q⟩
  · refine g_catch (E := "java/lang/IllegalArgumentException") (name := "java/lang/IllegalArgumentException") (pre := [(0, 10, 13, 20)]) (x := (0, 10, 17, 13)) (suf := []) rfl (by decide) ctIAE (by intro z hz; simp only [List.mem_cons, List.not_mem_nil, or_false] at hz; rcases hz with rfl <;> first | exact ⟨by decide, _, lkIOB, by decide, by decide⟩) rfl (by decide) lkIAE (fun q9 => ?_)
    refine s_aw dL_setLimit_17 rfl rfl rfl ?_
    dsimp only [List.set]
    refine g_iconst (v := 2) dL_setLimit_19 (by decide) ?_
    refine g_ireturn dL_setLimit_20 rfl rfl (by decide) ?_
    exact Or.inr ⟨1, _, rfl, rfl, q⟩
set_option maxRecDepth 100000 in
theorem mL_setSize {l : Launch} {G : ux_G} {h : ux_H} {a b : Int32} {Q : Option Value → ux_H → Prop} {X : String → ux_H → Prop} (hM : ux_M l G yX5_setSize iX5_setSize 7 4 [.ref 176, .int a, .int b] h Q X) (hv : ∀ v h', Q v h' → ∃ z, v = some (.int z)) (hE : ∀ E h', X E h' → E = "java/lang/IndexOutOfBoundsException" ∨ E = "java/lang/IllegalArgumentException" ∨ E = "java/lang/IllegalStateException") : ux_M l G yL_setSize iL_setSize 8 4 [.ref 176, .int a, .int b, .ref 202] h (QW Q X ["java/lang/IndexOutOfBoundsException", "java/lang/IllegalArgumentException", "java/lang/IllegalStateException"]) (fun _ _ => False) := by
  refine ux_entX (L' := [some (.ref 176), some (.int a), some (.int b), some (.ref 202), none]) kL_setSize (List.cons_ne_nil _ _) rfl rfl rfl ?_
  refine g_aload_n dL_setSize_0 rfl ?_
  refine g_iconst (v := 0) dL_setSize_1 (by decide) ?_
  refine g_aload_n dL_setSize_2 rfl ?_
  refine g_iload_n dL_setSize_3 rfl ?_
  refine g_iload_n dL_setSize_4 rfl ?_
  refine q_V (u' := 4) lL_22 kX5_setSize (hM) dL_setSize_5 rfl rfl rfl rfl rfl rfl rfl rfl (fun v h5 hq => ?_) (fun E hx q => ?_)
  obtain ⟨z, rfl⟩ := hv _ _ hq
  dsimp only [Option.toList, List.cons_append, List.nil_append]
  refine g_i2l dL_setSize_8 ?_
  refine g_last dL_setSize_9 rfl (show 0 < 1 by decide) rfl ?_
  refine g_goto (tgt := 25) dL_setSize_10 (by decide) ?_
  refine g_iconst (v := 0) dL_setSize_25 (by decide) ?_
  refine g_ireturn dL_setSize_26 rfl rfl (by decide) ?_
  exact Or.inl ⟨rfl, z, _, hq, rfl⟩
  rcases hE _ _ q with rfl | rfl | rfl
  · refine g_catch (E := "java/lang/IndexOutOfBoundsException") (name := "java/lang/IndexOutOfBoundsException") (pre := []) (x := (0, 10, 13, 20)) (suf := [(0, 10, 17, 13), (0, 10, 21, 15)]) rfl (by decide) ctIOB (fun z hz => absurd hz (by simp)) rfl (by decide) lkIOB (fun q9 => ?_)
    refine s_aw dL_setSize_13 rfl rfl rfl ?_
    dsimp only [List.set]
    refine g_iconst (v := 1) dL_setSize_15 (by decide) ?_
    refine g_ireturn dL_setSize_16 rfl rfl (by decide) ?_
    exact Or.inr ⟨0, _, rfl, rfl, q⟩
  · refine g_catch (E := "java/lang/IllegalArgumentException") (name := "java/lang/IllegalArgumentException") (pre := [(0, 10, 13, 20)]) (x := (0, 10, 17, 13)) (suf := [(0, 10, 21, 15)]) rfl (by decide) ctIAE (by intro z hz; simp only [List.mem_cons, List.not_mem_nil, or_false] at hz; rcases hz with rfl <;> first | exact ⟨by decide, _, lkIOB, by decide, by decide⟩) rfl (by decide) lkIAE (fun q9 => ?_)
    refine s_aw dL_setSize_17 rfl rfl rfl ?_
    dsimp only [List.set]
    refine g_iconst (v := 2) dL_setSize_19 (by decide) ?_
    refine g_ireturn dL_setSize_20 rfl rfl (by decide) ?_
    exact Or.inr ⟨1, _, rfl, rfl, q⟩
  · refine g_catch (E := "java/lang/IllegalStateException") (name := "java/lang/IllegalStateException") (pre := [(0, 10, 13, 20), (0, 10, 17, 13)]) (x := (0, 10, 21, 15)) (suf := []) rfl (by decide) ctISE (by intro z hz; simp only [List.mem_cons, List.not_mem_nil, or_false] at hz; rcases hz with rfl | rfl <;> first | exact ⟨by decide, _, lkIOB, by decide, by decide⟩ | exact ⟨by decide, _, lkIAE, by decide, by decide⟩) rfl (by decide) lkISE (fun q9 => ?_)
    refine s_aw dL_setSize_21 rfl rfl rfl ?_
    dsimp only [List.set]
    refine g_iconst (v := 3) dL_setSize_23 (by decide) ?_
    refine g_ireturn dL_setSize_24 rfl rfl (by decide) ?_
    exact Or.inr ⟨2, _, rfl, rfl, q⟩
set_option maxRecDepth 100000 in
theorem mL_setCapacity {l : Launch} {G : ux_G} {h : ux_H} {a b : Int32} {Q : Option Value → ux_H → Prop} {X : String → ux_H → Prop} (hM : ux_M l G yX5_setCapacity iX5_setCapacity 7 4 [.ref 176, .int a, .int b] h Q X) (hv : ∀ v h', Q v h' → ∃ z, v = some (.int z)) (hE : ∀ E h', X E h' → E = "java/lang/IndexOutOfBoundsException" ∨ E = "java/lang/IllegalArgumentException" ∨ E = "java/lang/IllegalStateException") : ux_M l G yL_setCapacity iL_setCapacity 8 4 [.ref 176, .int a, .int b, .ref 202] h (QW Q X ["java/lang/IndexOutOfBoundsException", "java/lang/IllegalArgumentException", "java/lang/IllegalStateException"]) (fun _ _ => False) := by
  refine ux_entX (L' := [some (.ref 176), some (.int a), some (.int b), some (.ref 202), none]) kL_setCapacity (List.cons_ne_nil _ _) rfl rfl rfl ?_
  refine g_aload_n dL_setCapacity_0 rfl ?_
  refine g_iconst (v := 0) dL_setCapacity_1 (by decide) ?_
  refine g_aload_n dL_setCapacity_2 rfl ?_
  refine g_iload_n dL_setCapacity_3 rfl ?_
  refine g_iload_n dL_setCapacity_4 rfl ?_
  refine q_V (u' := 4) lL_25 kX5_setCapacity (hM) dL_setCapacity_5 rfl rfl rfl rfl rfl rfl rfl rfl (fun v h5 hq => ?_) (fun E hx q => ?_)
  obtain ⟨z, rfl⟩ := hv _ _ hq
  dsimp only [Option.toList, List.cons_append, List.nil_append]
  refine g_i2l dL_setCapacity_8 ?_
  refine g_last dL_setCapacity_9 rfl (show 0 < 1 by decide) rfl ?_
  refine g_goto (tgt := 25) dL_setCapacity_10 (by decide) ?_
  refine g_iconst (v := 0) dL_setCapacity_25 (by decide) ?_
  refine g_ireturn dL_setCapacity_26 rfl rfl (by decide) ?_
  exact Or.inl ⟨rfl, z, _, hq, rfl⟩
  rcases hE _ _ q with rfl | rfl | rfl
  · refine g_catch (E := "java/lang/IndexOutOfBoundsException") (name := "java/lang/IndexOutOfBoundsException") (pre := []) (x := (0, 10, 13, 20)) (suf := [(0, 10, 17, 13), (0, 10, 21, 15)]) rfl (by decide) ctIOB (fun z hz => absurd hz (by simp)) rfl (by decide) lkIOB (fun q9 => ?_)
    refine s_aw dL_setCapacity_13 rfl rfl rfl ?_
    dsimp only [List.set]
    refine g_iconst (v := 1) dL_setCapacity_15 (by decide) ?_
    refine g_ireturn dL_setCapacity_16 rfl rfl (by decide) ?_
    exact Or.inr ⟨0, _, rfl, rfl, q⟩
  · refine g_catch (E := "java/lang/IllegalArgumentException") (name := "java/lang/IllegalArgumentException") (pre := [(0, 10, 13, 20)]) (x := (0, 10, 17, 13)) (suf := [(0, 10, 21, 15)]) rfl (by decide) ctIAE (by intro z hz; simp only [List.mem_cons, List.not_mem_nil, or_false] at hz; rcases hz with rfl <;> first | exact ⟨by decide, _, lkIOB, by decide, by decide⟩) rfl (by decide) lkIAE (fun q9 => ?_)
    refine s_aw dL_setCapacity_17 rfl rfl rfl ?_
    dsimp only [List.set]
    refine g_iconst (v := 2) dL_setCapacity_19 (by decide) ?_
    refine g_ireturn dL_setCapacity_20 rfl rfl (by decide) ?_
    exact Or.inr ⟨1, _, rfl, rfl, q⟩
  · refine g_catch (E := "java/lang/IllegalStateException") (name := "java/lang/IllegalStateException") (pre := [(0, 10, 13, 20), (0, 10, 17, 13)]) (x := (0, 10, 21, 15)) (suf := []) rfl (by decide) ctISE (by intro z hz; simp only [List.mem_cons, List.not_mem_nil, or_false] at hz; rcases hz with rfl | rfl <;> first | exact ⟨by decide, _, lkIOB, by decide, by decide⟩ | exact ⟨by decide, _, lkIAE, by decide, by decide⟩) rfl (by decide) lkISE (fun q9 => ?_)
    refine s_aw dL_setCapacity_21 rfl rfl rfl ?_
    dsimp only [List.set]
    refine g_iconst (v := 3) dL_setCapacity_23 (by decide) ?_
    refine g_ireturn dL_setCapacity_24 rfl rfl (by decide) ?_
    exact Or.inr ⟨2, _, rfl, rfl, q⟩
set_option maxRecDepth 100000 in
theorem mL_addLesson {l : Launch} {G : ux_G} {h : ux_H} {a b c d e : Int32} {Q : Option Value → ux_H → Prop} {X : String → ux_H → Prop} (hM : ux_M l G yX5_addLesson iX5_addLesson 5 2 [.ref 176, .int a, .int b, .int c, .int d, .int e] h Q X) (hv : ∀ v h', Q v h' → ∃ z, v = some (.int z)) (hE : ∀ E h', X E h' → E = "java/lang/IllegalArgumentException" ∨ E = "java/lang/UnsupportedOperationException" ∨ E = "java/lang/IllegalStateException") : ux_M l G yL_addLesson iL_addLesson 6 2 [.ref 176, .int a, .int b, .int c, .int d, .int e, .ref 202] h (QW Q X ["java/lang/IllegalArgumentException", "java/lang/UnsupportedOperationException", "java/lang/IllegalStateException"]) (fun _ _ => False) := by
  refine ux_entX (L' := [some (.ref 176), some (.int a), some (.int b), some (.int c), some (.int d), some (.int e), some (.ref 202), none]) kL_addLesson (List.cons_ne_nil _ _) rfl rfl rfl ?_
  refine g_aload dL_addLesson_0 rfl ?_
  refine g_iconst (v := 0) dL_addLesson_2 (by decide) ?_
  refine g_aload_n dL_addLesson_3 rfl ?_
  refine g_iload_n dL_addLesson_4 rfl ?_
  refine g_iload_n dL_addLesson_5 rfl ?_
  refine g_iload_n dL_addLesson_6 rfl ?_
  refine g_iload dL_addLesson_7 rfl ?_
  refine g_iload dL_addLesson_9 rfl ?_
  refine q_V (u' := 2) lL_28 kX5_addLesson (hM) dL_addLesson_11 rfl rfl rfl rfl rfl rfl rfl rfl (fun v h11 hq => ?_) (fun E hx q => ?_)
  obtain ⟨z, rfl⟩ := hv _ _ hq
  dsimp only [Option.toList, List.cons_append, List.nil_append]
  refine g_i2l dL_addLesson_14 ?_
  refine g_last dL_addLesson_15 rfl (show 0 < 1 by decide) rfl ?_
  refine g_goto (tgt := 31) dL_addLesson_16 (by decide) ?_
  refine g_iconst (v := 0) dL_addLesson_31 (by decide) ?_
  refine g_ireturn dL_addLesson_32 rfl rfl (by decide) ?_
  exact Or.inl ⟨rfl, z, _, hq, rfl⟩
  rcases hE _ _ q with rfl | rfl | rfl
  · refine g_catch (E := "java/lang/IllegalArgumentException") (name := "java/lang/IllegalArgumentException") (pre := []) (x := (0, 16, 19, 13)) (suf := [(0, 16, 23, 32), (0, 16, 27, 15)]) rfl (by decide) ctIAE (fun z hz => absurd hz (by simp)) rfl (by decide) lkIAE (fun q9 => ?_)
    refine s_aw dL_addLesson_19 rfl rfl rfl ?_
    dsimp only [List.set]
    refine g_iconst (v := 1) dL_addLesson_21 (by decide) ?_
    refine g_ireturn dL_addLesson_22 rfl rfl (by decide) ?_
    exact Or.inr ⟨0, _, rfl, rfl, q⟩
  · refine g_catch (E := "java/lang/UnsupportedOperationException") (name := "java/lang/UnsupportedOperationException") (pre := [(0, 16, 19, 13)]) (x := (0, 16, 23, 32)) (suf := [(0, 16, 27, 15)]) rfl (by decide) ctUOE (by intro z hz; simp only [List.mem_cons, List.not_mem_nil, or_false] at hz; rcases hz with rfl <;> first | exact ⟨by decide, _, lkIAE, by decide, by decide⟩) rfl (by decide) lkUOE (fun q9 => ?_)
    refine s_aw dL_addLesson_23 rfl rfl rfl ?_
    dsimp only [List.set]
    refine g_iconst (v := 2) dL_addLesson_25 (by decide) ?_
    refine g_ireturn dL_addLesson_26 rfl rfl (by decide) ?_
    exact Or.inr ⟨1, _, rfl, rfl, q⟩
  · refine g_catch (E := "java/lang/IllegalStateException") (name := "java/lang/IllegalStateException") (pre := [(0, 16, 19, 13), (0, 16, 23, 32)]) (x := (0, 16, 27, 15)) (suf := []) rfl (by decide) ctISE (by intro z hz; simp only [List.mem_cons, List.not_mem_nil, or_false] at hz; rcases hz with rfl | rfl <;> first | exact ⟨by decide, _, lkIAE, by decide, by decide⟩ | exact ⟨by decide, _, lkUOE, by decide, by decide⟩) rfl (by decide) lkISE (fun q9 => ?_)
    refine s_aw dL_addLesson_27 rfl rfl rfl ?_
    dsimp only [List.set]
    refine g_iconst (v := 3) dL_addLesson_29 (by decide) ?_
    refine g_ireturn dL_addLesson_30 rfl rfl (by decide) ?_
    exact Or.inr ⟨2, _, rfl, rfl, q⟩
set_option maxRecDepth 100000 in
theorem mL_removeLesson {l : Launch} {G : ux_G} {h : ux_H} {a : Int32} {Q : Option Value → ux_H → Prop} {X : String → ux_H → Prop} (hM : ux_M l G yX5_removeLesson iX5_removeLesson 9 2 [.ref 176, .int a] h Q X) (hv : ∀ v h', Q v h' → ∃ z, v = some (.int z)) (hE : ∀ E h', X E h' → E = "java/lang/IndexOutOfBoundsException") : ux_M l G yL_removeLesson iL_removeLesson 10 2 [.ref 176, .int a, .ref 202] h (QW Q X ["java/lang/IndexOutOfBoundsException"]) (fun _ _ => False) := by
  refine ux_entX (L' := [some (.ref 176), some (.int a), some (.ref 202), none]) kL_removeLesson (List.cons_ne_nil _ _) rfl rfl rfl ?_
  refine g_aload_n dL_removeLesson_0 rfl ?_
  refine g_iconst (v := 0) dL_removeLesson_1 (by decide) ?_
  refine g_aload_n dL_removeLesson_2 rfl ?_
  refine g_iload_n dL_removeLesson_3 rfl ?_
  refine q_V (u' := 2) lL_34 kX5_removeLesson (hM) dL_removeLesson_4 rfl rfl rfl rfl rfl rfl rfl rfl (fun v h4 hq => ?_) (fun E hx q => ?_)
  obtain ⟨z, rfl⟩ := hv _ _ hq
  dsimp only [Option.toList, List.cons_append, List.nil_append]
  refine g_i2l dL_removeLesson_7 ?_
  refine g_last dL_removeLesson_8 rfl (show 0 < 1 by decide) rfl ?_
  refine g_goto (tgt := 15) dL_removeLesson_9 (by decide) ?_
  refine g_iconst (v := 0) dL_removeLesson_15 (by decide) ?_
  refine g_ireturn dL_removeLesson_16 rfl rfl (by decide) ?_
  exact Or.inl ⟨rfl, z, _, hq, rfl⟩
  rcases hE _ _ q with rfl
  · refine g_catch (E := "java/lang/IndexOutOfBoundsException") (name := "java/lang/IndexOutOfBoundsException") (pre := []) (x := (0, 9, 12, 20)) (suf := []) rfl (by decide) ctIOB (fun z hz => absurd hz (by simp)) rfl (by decide) lkIOB (fun q9 => ?_)
    refine s_a (i := 3) dL_removeLesson_12 rfl rfl rfl rfl ?_
    dsimp only [List.set]
    refine g_iconst (v := 1) dL_removeLesson_13 (by decide) ?_
    refine g_ireturn dL_removeLesson_14 rfl rfl (by decide) ?_
    exact Or.inr ⟨0, _, rfl, rfl, q⟩
set_option maxRecDepth 100000 in
theorem mL_setRoom {l : Launch} {G : ux_G} {h : ux_H} {a b : Int32} {Q : Option Value → ux_H → Prop} {X : String → ux_H → Prop} (hM : ux_M l G yX5_setRoom iX5_setRoom 8 4 [.ref 176, .int a, .int b] h Q X) (hv : ∀ v h', Q v h' → ∃ z, v = some (.int z)) (hE : ∀ E h', X E h' → E = "java/lang/IndexOutOfBoundsException" ∨ E = "java/lang/IllegalArgumentException" ∨ E = "java/lang/IllegalStateException") : ux_M l G yL_setRoom iL_setRoom 9 4 [.ref 176, .int a, .int b, .ref 202] h (QW Q X ["java/lang/IndexOutOfBoundsException", "java/lang/IllegalArgumentException", "java/lang/IllegalStateException"]) (fun _ _ => False) := by
  refine ux_entX (L' := [some (.ref 176), some (.int a), some (.int b), some (.ref 202), none]) kL_setRoom (List.cons_ne_nil _ _) rfl rfl rfl ?_
  refine g_aload_n dL_setRoom_0 rfl ?_
  refine g_iconst (v := 0) dL_setRoom_1 (by decide) ?_
  refine g_aload_n dL_setRoom_2 rfl ?_
  refine g_iload_n dL_setRoom_3 rfl ?_
  refine g_iload_n dL_setRoom_4 rfl ?_
  refine q_V (u' := 4) lL_38 kX5_setRoom (hM) dL_setRoom_5 rfl rfl rfl rfl rfl rfl rfl rfl (fun v h5 hq => ?_) (fun E hx q => ?_)
  obtain ⟨z, rfl⟩ := hv _ _ hq
  dsimp only [Option.toList, List.cons_append, List.nil_append]
  refine g_i2l dL_setRoom_8 ?_
  refine g_last dL_setRoom_9 rfl (show 0 < 1 by decide) rfl ?_
  refine g_goto (tgt := 25) dL_setRoom_10 (by decide) ?_
  refine g_iconst (v := 0) dL_setRoom_25 (by decide) ?_
  refine g_ireturn dL_setRoom_26 rfl rfl (by decide) ?_
  exact Or.inl ⟨rfl, z, _, hq, rfl⟩
  rcases hE _ _ q with rfl | rfl | rfl
  · refine g_catch (E := "java/lang/IndexOutOfBoundsException") (name := "java/lang/IndexOutOfBoundsException") (pre := []) (x := (0, 10, 13, 20)) (suf := [(0, 10, 17, 13), (0, 10, 21, 15)]) rfl (by decide) ctIOB (fun z hz => absurd hz (by simp)) rfl (by decide) lkIOB (fun q9 => ?_)
    refine s_aw dL_setRoom_13 rfl rfl rfl ?_
    dsimp only [List.set]
    refine g_iconst (v := 1) dL_setRoom_15 (by decide) ?_
    refine g_ireturn dL_setRoom_16 rfl rfl (by decide) ?_
    exact Or.inr ⟨0, _, rfl, rfl, q⟩
  · refine g_catch (E := "java/lang/IllegalArgumentException") (name := "java/lang/IllegalArgumentException") (pre := [(0, 10, 13, 20)]) (x := (0, 10, 17, 13)) (suf := [(0, 10, 21, 15)]) rfl (by decide) ctIAE (by intro z hz; simp only [List.mem_cons, List.not_mem_nil, or_false] at hz; rcases hz with rfl <;> first | exact ⟨by decide, _, lkIOB, by decide, by decide⟩) rfl (by decide) lkIAE (fun q9 => ?_)
    refine s_aw dL_setRoom_17 rfl rfl rfl ?_
    dsimp only [List.set]
    refine g_iconst (v := 2) dL_setRoom_19 (by decide) ?_
    refine g_ireturn dL_setRoom_20 rfl rfl (by decide) ?_
    exact Or.inr ⟨1, _, rfl, rfl, q⟩
  · refine g_catch (E := "java/lang/IllegalStateException") (name := "java/lang/IllegalStateException") (pre := [(0, 10, 13, 20), (0, 10, 17, 13)]) (x := (0, 10, 21, 15)) (suf := []) rfl (by decide) ctISE (by intro z hz; simp only [List.mem_cons, List.not_mem_nil, or_false] at hz; rcases hz with rfl | rfl <;> first | exact ⟨by decide, _, lkIOB, by decide, by decide⟩ | exact ⟨by decide, _, lkIAE, by decide, by decide⟩) rfl (by decide) lkISE (fun q9 => ?_)
    refine s_aw dL_setRoom_21 rfl rfl rfl ?_
    dsimp only [List.set]
    refine g_iconst (v := 3) dL_setRoom_23 (by decide) ?_
    refine g_ireturn dL_setRoom_24 rfl rfl (by decide) ?_
    exact Or.inr ⟨2, _, rfl, rfl, q⟩
set_option maxRecDepth 100000 in
theorem mL_count {l : Launch} {G : ux_G} {h : ux_H} {a : Int32} {Q : Option Value → ux_H → Prop} {X : String → ux_H → Prop} (hM : ux_M l G yX5_count iX5_count 5 1 [.ref 176, .int a] h Q X) (hv : ∀ v h', Q v h' → ∃ z, v = some (.int z)) (hE : ∀ E h', X E h' → E = "java/lang/IllegalArgumentException") : ux_M l G yL_count iL_count 6 1 [.ref 176, .int a, .ref 202] h (QW Q X ["java/lang/IllegalArgumentException"]) (fun _ _ => False) := by
  refine ux_entX (L' := [some (.ref 176), some (.int a), some (.ref 202), none]) kL_count (List.cons_ne_nil _ _) rfl rfl rfl ?_
  refine g_aload_n dL_count_0 rfl ?_
  refine g_iconst (v := 0) dL_count_1 (by decide) ?_
  refine g_aload_n dL_count_2 rfl ?_
  refine g_iload_n dL_count_3 rfl ?_
  refine q_V (u' := 1) lL_41 kX5_count (hM) dL_count_4 rfl rfl rfl rfl rfl rfl rfl rfl (fun v h4 hq => ?_) (fun E hx q => ?_)
  obtain ⟨z, rfl⟩ := hv _ _ hq
  dsimp only [Option.toList, List.cons_append, List.nil_append]
  refine g_i2l dL_count_7 ?_
  refine g_last dL_count_8 rfl (show 0 < 1 by decide) rfl ?_
  refine g_goto (tgt := 15) dL_count_9 (by decide) ?_
  refine g_iconst (v := 0) dL_count_15 (by decide) ?_
  refine g_ireturn dL_count_16 rfl rfl (by decide) ?_
  exact Or.inl ⟨rfl, z, _, hq, rfl⟩
  rcases hE _ _ q with rfl
  · refine g_catch (E := "java/lang/IllegalArgumentException") (name := "java/lang/IllegalArgumentException") (pre := []) (x := (0, 9, 12, 13)) (suf := []) rfl (by decide) ctIAE (fun z hz => absurd hz (by simp)) rfl (by decide) lkIAE (fun q9 => ?_)
    refine s_a (i := 3) dL_count_12 rfl rfl rfl rfl ?_
    dsimp only [List.set]
    refine g_iconst (v := 1) dL_count_13 (by decide) ?_
    refine g_ireturn dL_count_14 rfl rfl (by decide) ?_
    exact Or.inr ⟨0, _, rfl, rfl, q⟩
set_option maxRecDepth 100000 in
theorem mL_lesson {l : Launch} {G : ux_G} {h : ux_H} {a b : Int32} {Q : Option Value → ux_H → Prop} {X : String → ux_H → Prop} (hM : ux_M l G yX5_lesson iX5_lesson 6 2 [.ref 176, .int a, .int b] h Q X) (hv : ∀ v h', Q v h' → ∃ z, v = some (.int z)) (hE : ∀ E h', X E h' → E = "java/lang/IndexOutOfBoundsException" ∨ E = "java/lang/IllegalArgumentException") : ux_M l G yL_lesson iL_lesson 7 2 [.ref 176, .int a, .int b, .ref 202] h (QW Q X ["java/lang/IndexOutOfBoundsException", "java/lang/IllegalArgumentException"]) (fun _ _ => False) := by
  refine ux_entX (L' := [some (.ref 176), some (.int a), some (.int b), some (.ref 202), none]) kL_lesson (List.cons_ne_nil _ _) rfl rfl rfl ?_
  refine g_aload_n dL_lesson_0 rfl ?_
  refine g_iconst (v := 0) dL_lesson_1 (by decide) ?_
  refine g_aload_n dL_lesson_2 rfl ?_
  refine g_iload_n dL_lesson_3 rfl ?_
  refine g_iload_n dL_lesson_4 rfl ?_
  refine q_V (u' := 2) lL_44 kX5_lesson (hM) dL_lesson_5 rfl rfl rfl rfl rfl rfl rfl rfl (fun v h5 hq => ?_) (fun E hx q => ?_)
  obtain ⟨z, rfl⟩ := hv _ _ hq
  dsimp only [Option.toList, List.cons_append, List.nil_append]
  refine g_i2l dL_lesson_8 ?_
  refine g_last dL_lesson_9 rfl (show 0 < 1 by decide) rfl ?_
  refine g_goto (tgt := 21) dL_lesson_10 (by decide) ?_
  refine g_iconst (v := 0) dL_lesson_21 (by decide) ?_
  refine g_ireturn dL_lesson_22 rfl rfl (by decide) ?_
  exact Or.inl ⟨rfl, z, _, hq, rfl⟩
  rcases hE _ _ q with rfl | rfl
  · refine g_catch (E := "java/lang/IndexOutOfBoundsException") (name := "java/lang/IndexOutOfBoundsException") (pre := []) (x := (0, 10, 13, 20)) (suf := [(0, 10, 17, 13)]) rfl (by decide) ctIOB (fun z hz => absurd hz (by simp)) rfl (by decide) lkIOB (fun q9 => ?_)
    refine s_aw dL_lesson_13 rfl rfl rfl ?_
    dsimp only [List.set]
    refine g_iconst (v := 1) dL_lesson_15 (by decide) ?_
    refine g_ireturn dL_lesson_16 rfl rfl (by decide) ?_
    exact Or.inr ⟨0, _, rfl, rfl, q⟩
  · refine g_catch (E := "java/lang/IllegalArgumentException") (name := "java/lang/IllegalArgumentException") (pre := [(0, 10, 13, 20)]) (x := (0, 10, 17, 13)) (suf := []) rfl (by decide) ctIAE (by intro z hz; simp only [List.mem_cons, List.not_mem_nil, or_false] at hz; rcases hz with rfl <;> first | exact ⟨by decide, _, lkIOB, by decide, by decide⟩) rfl (by decide) lkIAE (fun q9 => ?_)
    refine s_aw dL_lesson_17 rfl rfl rfl ?_
    dsimp only [List.set]
    refine g_iconst (v := 2) dL_lesson_19 (by decide) ?_
    refine g_ireturn dL_lesson_20 rfl rfl (by decide) ?_
    exact Or.inr ⟨1, _, rfl, rfl, q⟩
set_option maxRecDepth 100000 in
theorem mL_teacher {l : Launch} {G : ux_G} {h : ux_H} {a b : Int32} {Q : Option Value → ux_H → Prop} {X : String → ux_H → Prop} (hM : ux_M l G yX5_teacher iX5_teacher 6 2 [.ref 176, .int a, .int b] h Q X) (hv : ∀ v h', Q v h' → ∃ z, v = some (.int z)) (hE : ∀ E h', X E h' → E = "java/lang/IndexOutOfBoundsException" ∨ E = "java/lang/IllegalArgumentException") : ux_M l G yL_teacher iL_teacher 7 2 [.ref 176, .int a, .int b, .ref 202] h (QW Q X ["java/lang/IndexOutOfBoundsException", "java/lang/IllegalArgumentException"]) (fun _ _ => False) := by
  refine ux_entX (L' := [some (.ref 176), some (.int a), some (.int b), some (.ref 202), none]) kL_teacher (List.cons_ne_nil _ _) rfl rfl rfl ?_
  refine g_aload_n dL_teacher_0 rfl ?_
  refine g_iconst (v := 0) dL_teacher_1 (by decide) ?_
  refine g_aload_n dL_teacher_2 rfl ?_
  refine g_iload_n dL_teacher_3 rfl ?_
  refine g_iload_n dL_teacher_4 rfl ?_
  refine q_V (u' := 2) lL_47 kX5_teacher (hM) dL_teacher_5 rfl rfl rfl rfl rfl rfl rfl rfl (fun v h5 hq => ?_) (fun E hx q => ?_)
  obtain ⟨z, rfl⟩ := hv _ _ hq
  dsimp only [Option.toList, List.cons_append, List.nil_append]
  refine g_i2l dL_teacher_8 ?_
  refine g_last dL_teacher_9 rfl (show 0 < 1 by decide) rfl ?_
  refine g_goto (tgt := 21) dL_teacher_10 (by decide) ?_
  refine g_iconst (v := 0) dL_teacher_21 (by decide) ?_
  refine g_ireturn dL_teacher_22 rfl rfl (by decide) ?_
  exact Or.inl ⟨rfl, z, _, hq, rfl⟩
  rcases hE _ _ q with rfl | rfl
  · refine g_catch (E := "java/lang/IndexOutOfBoundsException") (name := "java/lang/IndexOutOfBoundsException") (pre := []) (x := (0, 10, 13, 20)) (suf := [(0, 10, 17, 13)]) rfl (by decide) ctIOB (fun z hz => absurd hz (by simp)) rfl (by decide) lkIOB (fun q9 => ?_)
    refine s_aw dL_teacher_13 rfl rfl rfl ?_
    dsimp only [List.set]
    refine g_iconst (v := 1) dL_teacher_15 (by decide) ?_
    refine g_ireturn dL_teacher_16 rfl rfl (by decide) ?_
    exact Or.inr ⟨0, _, rfl, rfl, q⟩
  · refine g_catch (E := "java/lang/IllegalArgumentException") (name := "java/lang/IllegalArgumentException") (pre := [(0, 10, 13, 20)]) (x := (0, 10, 17, 13)) (suf := []) rfl (by decide) ctIAE (by intro z hz; simp only [List.mem_cons, List.not_mem_nil, or_false] at hz; rcases hz with rfl <;> first | exact ⟨by decide, _, lkIOB, by decide, by decide⟩) rfl (by decide) lkIAE (fun q9 => ?_)
    refine s_aw dL_teacher_17 rfl rfl rfl ?_
    dsimp only [List.set]
    refine g_iconst (v := 2) dL_teacher_19 (by decide) ?_
    refine g_ireturn dL_teacher_20 rfl rfl (by decide) ?_
    exact Or.inr ⟨1, _, rfl, rfl, q⟩
set_option maxRecDepth 100000 in
theorem mL_lessonOf {l : Launch} {G : ux_G} {h : ux_H} {a b : Int32} {Q : Option Value → ux_H → Prop} {X : String → ux_H → Prop} (hM : ux_M l G yX5_lessonOf iX5_lessonOf 4 3 [.ref 176, .int a, .int b] h Q X) (hv : ∀ v h', Q v h' → ∃ z, v = some (.int z)) (hE : ∀ E h', X E h' → E = "java/lang/IndexOutOfBoundsException" ∨ E = "java/util/NoSuchElementException") : ux_M l G yL_lessonOf iL_lessonOf 5 3 [.ref 176, .int a, .int b, .ref 202] h (QW Q X ["java/lang/IndexOutOfBoundsException", "java/util/NoSuchElementException"]) (fun _ _ => False) := by
  refine ux_entX (L' := [some (.ref 176), some (.int a), some (.int b), some (.ref 202), none]) kL_lessonOf (List.cons_ne_nil _ _) rfl rfl rfl ?_
  refine g_aload_n dL_lessonOf_0 rfl ?_
  refine g_iconst (v := 0) dL_lessonOf_1 (by decide) ?_
  refine g_aload_n dL_lessonOf_2 rfl ?_
  refine g_iload_n dL_lessonOf_3 rfl ?_
  refine g_iload_n dL_lessonOf_4 rfl ?_
  refine q_V (u' := 3) lL_50 kX5_lessonOf (hM) dL_lessonOf_5 rfl rfl rfl rfl rfl rfl rfl rfl (fun v h5 hq => ?_) (fun E hx q => ?_)
  obtain ⟨z, rfl⟩ := hv _ _ hq
  dsimp only [Option.toList, List.cons_append, List.nil_append]
  refine g_i2l dL_lessonOf_8 ?_
  refine g_last dL_lessonOf_9 rfl (show 0 < 1 by decide) rfl ?_
  refine g_goto (tgt := 21) dL_lessonOf_10 (by decide) ?_
  refine g_iconst (v := 0) dL_lessonOf_21 (by decide) ?_
  refine g_ireturn dL_lessonOf_22 rfl rfl (by decide) ?_
  exact Or.inl ⟨rfl, z, _, hq, rfl⟩
  rcases hE _ _ q with rfl | rfl
  · refine g_catch (E := "java/lang/IndexOutOfBoundsException") (name := "java/lang/IndexOutOfBoundsException") (pre := []) (x := (0, 10, 13, 20)) (suf := [(0, 10, 17, 53)]) rfl (by decide) ctIOB (fun z hz => absurd hz (by simp)) rfl (by decide) lkIOB (fun q9 => ?_)
    refine s_aw dL_lessonOf_13 rfl rfl rfl ?_
    dsimp only [List.set]
    refine g_iconst (v := 1) dL_lessonOf_15 (by decide) ?_
    refine g_ireturn dL_lessonOf_16 rfl rfl (by decide) ?_
    exact Or.inr ⟨0, _, rfl, rfl, q⟩
  · refine g_catch (E := "java/util/NoSuchElementException") (name := "java/util/NoSuchElementException") (pre := [(0, 10, 13, 20)]) (x := (0, 10, 17, 53)) (suf := []) rfl (by decide) ctNSE (by intro z hz; simp only [List.mem_cons, List.not_mem_nil, or_false] at hz; rcases hz with rfl <;> first | exact ⟨by decide, _, lkIOB, by decide, by decide⟩) rfl (by decide) lkNSE (fun q9 => ?_)
    refine s_aw dL_lessonOf_17 rfl rfl rfl ?_
    dsimp only [List.set]
    refine g_iconst (v := 2) dL_lessonOf_19 (by decide) ?_
    refine g_ireturn dL_lessonOf_20 rfl rfl (by decide) ?_
    exact Or.inr ⟨1, _, rfl, rfl, q⟩
set_option maxRecDepth 100000 in
theorem mL_setAbsent {l : Launch} {G : ux_G} {h : ux_H} {a b c : Int32} {Q : Option Value → ux_H → Prop} {X : String → ux_H → Prop} (hM : ux_M l G yX5_setAbsent iX5_setAbsent 9 3 [.ref 176, .int a, .int b, .int c] h Q X) (hv : ∀ v h', Q v h' → ∃ z, v = some (.int z)) (hE : ∀ E h', X E h' → E = "java/lang/IndexOutOfBoundsException" ∨ E = "java/lang/IllegalStateException") : ux_M l G yL_setAbsent iL_setAbsent 10 3 [.ref 176, .int a, .int b, .int c, .ref 202] h (QW Q X ["java/lang/IndexOutOfBoundsException", "java/lang/IllegalStateException"]) (fun _ _ => False) := by
  refine ux_entX (L' := [some (.ref 176), some (.int a), some (.int b), some (.int c), some (.ref 202), none]) kL_setAbsent (List.cons_ne_nil _ _) rfl rfl rfl ?_
  refine g_aload dL_setAbsent_0 rfl ?_
  refine g_iconst (v := 0) dL_setAbsent_2 (by decide) ?_
  refine g_aload_n dL_setAbsent_3 rfl ?_
  refine g_iload_n dL_setAbsent_4 rfl ?_
  refine g_iload_n dL_setAbsent_5 rfl ?_
  refine g_iload_n dL_setAbsent_6 rfl ?_
  refine q_V (u' := 3) lL_55 kX5_setAbsent (hM) dL_setAbsent_7 rfl rfl rfl rfl rfl rfl rfl rfl (fun v h7 hq => ?_) (fun E hx q => ?_)
  obtain ⟨z, rfl⟩ := hv _ _ hq
  dsimp only [Option.toList, List.cons_append, List.nil_append]
  refine g_i2l dL_setAbsent_10 ?_
  refine g_last dL_setAbsent_11 rfl (show 0 < 1 by decide) rfl ?_
  refine g_goto (tgt := 23) dL_setAbsent_12 (by decide) ?_
  refine g_iconst (v := 0) dL_setAbsent_23 (by decide) ?_
  refine g_ireturn dL_setAbsent_24 rfl rfl (by decide) ?_
  exact Or.inl ⟨rfl, z, _, hq, rfl⟩
  rcases hE _ _ q with rfl | rfl
  · refine g_catch (E := "java/lang/IndexOutOfBoundsException") (name := "java/lang/IndexOutOfBoundsException") (pre := []) (x := (0, 12, 15, 20)) (suf := [(0, 12, 19, 15)]) rfl (by decide) ctIOB (fun z hz => absurd hz (by simp)) rfl (by decide) lkIOB (fun q9 => ?_)
    refine s_aw dL_setAbsent_15 rfl rfl rfl ?_
    dsimp only [List.set]
    refine g_iconst (v := 1) dL_setAbsent_17 (by decide) ?_
    refine g_ireturn dL_setAbsent_18 rfl rfl (by decide) ?_
    exact Or.inr ⟨0, _, rfl, rfl, q⟩
  · refine g_catch (E := "java/lang/IllegalStateException") (name := "java/lang/IllegalStateException") (pre := [(0, 12, 15, 20)]) (x := (0, 12, 19, 15)) (suf := []) rfl (by decide) ctISE (by intro z hz; simp only [List.mem_cons, List.not_mem_nil, or_false] at hz; rcases hz with rfl <;> first | exact ⟨by decide, _, lkIOB, by decide, by decide⟩) rfl (by decide) lkISE (fun q9 => ?_)
    refine s_aw dL_setAbsent_19 rfl rfl rfl ?_
    dsimp only [List.set]
    refine g_iconst (v := 2) dL_setAbsent_21 (by decide) ?_
    refine g_ireturn dL_setAbsent_22 rfl rfl (by decide) ?_
    exact Or.inr ⟨1, _, rfl, rfl, q⟩
set_option maxRecDepth 100000 in
theorem mL_absent {l : Launch} {G : ux_G} {h : ux_H} {a b : Int32} {Q : Option Value → ux_H → Prop} {X : String → ux_H → Prop} (hM : ux_M l G yX5_absent iX5_absent 4 3 [.ref 176, .int a, .int b] h Q X) (hv : ∀ v h', Q v h' → ∃ z, v = some (.int z)) (hE : ∀ E h', X E h' → E = "java/lang/IndexOutOfBoundsException") : ux_M l G yL_absent iL_absent 5 3 [.ref 176, .int a, .int b, .ref 202] h (QW Q X ["java/lang/IndexOutOfBoundsException"]) (fun _ _ => False) := by
  refine ux_entX (L' := [some (.ref 176), some (.int a), some (.int b), some (.ref 202), none]) kL_absent (List.cons_ne_nil _ _) rfl rfl rfl ?_
  refine g_aload_n dL_absent_0 rfl ?_
  refine g_iconst (v := 0) dL_absent_1 (by decide) ?_
  refine g_aload_n dL_absent_2 rfl ?_
  refine g_iload_n dL_absent_3 rfl ?_
  refine g_iload_n dL_absent_4 rfl ?_
  refine q_V (u' := 3) lL_59 kX5_absent (hM) dL_absent_5 rfl rfl rfl rfl rfl rfl rfl rfl (fun v h5 hq => ?_) (fun E hx q => ?_)
  obtain ⟨z, rfl⟩ := hv _ _ hq
  dsimp only [Option.toList, List.cons_append, List.nil_append]
  refine g_i2l dL_absent_8 ?_
  refine g_last dL_absent_9 rfl (show 0 < 1 by decide) rfl ?_
  refine g_goto (tgt := 17) dL_absent_10 (by decide) ?_
  refine g_iconst (v := 0) dL_absent_17 (by decide) ?_
  refine g_ireturn dL_absent_18 rfl rfl (by decide) ?_
  exact Or.inl ⟨rfl, z, _, hq, rfl⟩
  rcases hE _ _ q with rfl
  · refine g_catch (E := "java/lang/IndexOutOfBoundsException") (name := "java/lang/IndexOutOfBoundsException") (pre := []) (x := (0, 10, 13, 20)) (suf := []) rfl (by decide) ctIOB (fun z hz => absurd hz (by simp)) rfl (by decide) lkIOB (fun q9 => ?_)
    refine s_aw dL_absent_13 rfl rfl rfl ?_
    dsimp only [List.set]
    refine g_iconst (v := 1) dL_absent_15 (by decide) ?_
    refine g_ireturn dL_absent_16 rfl rfl (by decide) ?_
    exact Or.inr ⟨0, _, rfl, rfl, q⟩
set_option maxRecDepth 100000 in
theorem mL_free {l : Launch} {G : ux_G} {h : ux_H} {a b : Int32} {Q : Option Value → ux_H → Prop} {X : String → ux_H → Prop} (hM : ux_M l G yX5_free iX5_free 6 3 [.ref 176, .int a, .int b] h Q X) (hv : ∀ v h', Q v h' → ∃ z, v = some (.int z)) (hE : ∀ E h', X E h' → E = "java/lang/IndexOutOfBoundsException") : ux_M l G yL_free iL_free 7 3 [.ref 176, .int a, .int b, .ref 202] h (QW Q X ["java/lang/IndexOutOfBoundsException"]) (fun _ _ => False) := by
  refine ux_entX (L' := [some (.ref 176), some (.int a), some (.int b), some (.ref 202), none]) kL_free (List.cons_ne_nil _ _) rfl rfl rfl ?_
  refine g_aload_n dL_free_0 rfl ?_
  refine g_iconst (v := 0) dL_free_1 (by decide) ?_
  refine g_aload_n dL_free_2 rfl ?_
  refine g_iload_n dL_free_3 rfl ?_
  refine g_iload_n dL_free_4 rfl ?_
  refine q_V (u' := 3) lL_62 kX5_free (hM) dL_free_5 rfl rfl rfl rfl rfl rfl rfl rfl (fun v h5 hq => ?_) (fun E hx q => ?_)
  obtain ⟨z, rfl⟩ := hv _ _ hq
  dsimp only [Option.toList, List.cons_append, List.nil_append]
  refine g_i2l dL_free_8 ?_
  refine g_last dL_free_9 rfl (show 0 < 1 by decide) rfl ?_
  refine g_goto (tgt := 17) dL_free_10 (by decide) ?_
  refine g_iconst (v := 0) dL_free_17 (by decide) ?_
  refine g_ireturn dL_free_18 rfl rfl (by decide) ?_
  exact Or.inl ⟨rfl, z, _, hq, rfl⟩
  rcases hE _ _ q with rfl
  · refine g_catch (E := "java/lang/IndexOutOfBoundsException") (name := "java/lang/IndexOutOfBoundsException") (pre := []) (x := (0, 10, 13, 20)) (suf := []) rfl (by decide) ctIOB (fun z hz => absurd hz (by simp)) rfl (by decide) lkIOB (fun q9 => ?_)
    refine s_aw dL_free_13 rfl rfl rfl ?_
    dsimp only [List.set]
    refine g_iconst (v := 1) dL_free_15 (by decide) ?_
    refine g_ireturn dL_free_16 rfl rfl (by decide) ?_
    exact Or.inr ⟨0, _, rfl, rfl, q⟩
set_option maxRecDepth 100000 in
theorem mL_freeRooms {l : Launch} {G : ux_G} {h : ux_H} {a : Int32} {Q : Option Value → ux_H → Prop} {X : String → ux_H → Prop} (hM : ux_M l G yX5_freeRooms iX5_freeRooms 4 2 [.ref 176, .int a] h Q X) (hv : ∀ v h', Q v h' → ∃ z, v = some (.int z)) (hE : ∀ E h', X E h' → E = "java/lang/IndexOutOfBoundsException") : ux_M l G yL_freeRooms iL_freeRooms 5 2 [.ref 176, .int a, .ref 202] h (QW Q X ["java/lang/IndexOutOfBoundsException"]) (fun _ _ => False) := by
  refine ux_entX (L' := [some (.ref 176), some (.int a), some (.ref 202), none]) kL_freeRooms (List.cons_ne_nil _ _) rfl rfl rfl ?_
  refine g_aload_n dL_freeRooms_0 rfl ?_
  refine g_iconst (v := 0) dL_freeRooms_1 (by decide) ?_
  refine g_aload_n dL_freeRooms_2 rfl ?_
  refine g_iload_n dL_freeRooms_3 rfl ?_
  refine q_V (u' := 2) lL_65 kX5_freeRooms (hM) dL_freeRooms_4 rfl rfl rfl rfl rfl rfl rfl rfl (fun v h4 hq => ?_) (fun E hx q => ?_)
  obtain ⟨z, rfl⟩ := hv _ _ hq
  dsimp only [Option.toList, List.cons_append, List.nil_append]
  refine g_i2l dL_freeRooms_7 ?_
  refine g_last dL_freeRooms_8 rfl (show 0 < 1 by decide) rfl ?_
  refine g_goto (tgt := 15) dL_freeRooms_9 (by decide) ?_
  refine g_iconst (v := 0) dL_freeRooms_15 (by decide) ?_
  refine g_ireturn dL_freeRooms_16 rfl rfl (by decide) ?_
  exact Or.inl ⟨rfl, z, _, hq, rfl⟩
  rcases hE _ _ q with rfl
  · refine g_catch (E := "java/lang/IndexOutOfBoundsException") (name := "java/lang/IndexOutOfBoundsException") (pre := []) (x := (0, 9, 12, 20)) (suf := []) rfl (by decide) ctIOB (fun z hz => absurd hz (by simp)) rfl (by decide) lkIOB (fun q9 => ?_)
    refine s_a (i := 3) dL_freeRooms_12 rfl rfl rfl rfl ?_
    dsimp only [List.set]
    refine g_iconst (v := 1) dL_freeRooms_13 (by decide) ?_
    refine g_ireturn dL_freeRooms_14 rfl rfl (by decide) ?_
    exact Or.inr ⟨0, _, rfl, rfl, q⟩
set_option maxRecDepth 100000 in
theorem mL_openOn {l : Launch} {G : ux_G} {h : ux_H} {a : Int32} {Q : Option Value → ux_H → Prop} {X : String → ux_H → Prop} (hM : ux_M l G yX5_openOn iX5_openOn 5 2 [.ref 176, .int a] h Q X) (hv : ∀ v h', Q v h' → ∃ z, v = some (.int z)) (hE : ∀ E h', X E h' → E = "java/lang/IndexOutOfBoundsException") : ux_M l G yL_openOn iL_openOn 6 2 [.ref 176, .int a, .ref 202] h (QW Q X ["java/lang/IndexOutOfBoundsException"]) (fun _ _ => False) := by
  refine ux_entX (L' := [some (.ref 176), some (.int a), some (.ref 202), none]) kL_openOn (List.cons_ne_nil _ _) rfl rfl rfl ?_
  refine g_aload_n dL_openOn_0 rfl ?_
  refine g_iconst (v := 0) dL_openOn_1 (by decide) ?_
  refine g_aload_n dL_openOn_2 rfl ?_
  refine g_iload_n dL_openOn_3 rfl ?_
  refine q_V (u' := 2) lL_68 kX5_openOn (hM) dL_openOn_4 rfl rfl rfl rfl rfl rfl rfl rfl (fun v h4 hq => ?_) (fun E hx q => ?_)
  obtain ⟨z, rfl⟩ := hv _ _ hq
  dsimp only [Option.toList, List.cons_append, List.nil_append]
  refine g_i2l dL_openOn_7 ?_
  refine g_last dL_openOn_8 rfl (show 0 < 1 by decide) rfl ?_
  refine g_goto (tgt := 15) dL_openOn_9 (by decide) ?_
  refine g_iconst (v := 0) dL_openOn_15 (by decide) ?_
  refine g_ireturn dL_openOn_16 rfl rfl (by decide) ?_
  exact Or.inl ⟨rfl, z, _, hq, rfl⟩
  rcases hE _ _ q with rfl
  · refine g_catch (E := "java/lang/IndexOutOfBoundsException") (name := "java/lang/IndexOutOfBoundsException") (pre := []) (x := (0, 9, 12, 20)) (suf := []) rfl (by decide) ctIOB (fun z hz => absurd hz (by simp)) rfl (by decide) lkIOB (fun q9 => ?_)
    refine s_a (i := 3) dL_openOn_12 rfl rfl rfl rfl ?_
    dsimp only [List.set]
    refine g_iconst (v := 1) dL_openOn_13 (by decide) ?_
    refine g_ireturn dL_openOn_14 rfl rfl (by decide) ?_
    exact Or.inr ⟨0, _, rfl, rfl, q⟩
set_option maxRecDepth 100000 in
theorem mL_open {l : Launch} {G : ux_G} {h : ux_H} {a b : Int32} {Q : Option Value → ux_H → Prop} {X : String → ux_H → Prop} (hM : ux_M l G yX5_open iX5_open 6 3 [.ref 176, .int a, .int b] h Q X) (hv : ∀ v h', Q v h' → ∃ z, v = some (.int z)) (hE : ∀ E h', X E h' → E = "java/lang/IndexOutOfBoundsException" ∨ E = "java/util/NoSuchElementException") : ux_M l G yL_open iL_open 7 3 [.ref 176, .int a, .int b, .ref 202] h (QW Q X ["java/lang/IndexOutOfBoundsException", "java/util/NoSuchElementException"]) (fun _ _ => False) := by
  refine ux_entX (L' := [some (.ref 176), some (.int a), some (.int b), some (.ref 202), none]) kL_open (List.cons_ne_nil _ _) rfl rfl rfl ?_
  refine g_aload_n dL_open_0 rfl ?_
  refine g_iconst (v := 0) dL_open_1 (by decide) ?_
  refine g_aload_n dL_open_2 rfl ?_
  refine g_iload_n dL_open_3 rfl ?_
  refine g_iload_n dL_open_4 rfl ?_
  refine q_V (u' := 3) lL_71 kX5_open (hM) dL_open_5 rfl rfl rfl rfl rfl rfl rfl rfl (fun v h5 hq => ?_) (fun E hx q => ?_)
  obtain ⟨z, rfl⟩ := hv _ _ hq
  dsimp only [Option.toList, List.cons_append, List.nil_append]
  refine g_i2l dL_open_8 ?_
  refine g_last dL_open_9 rfl (show 0 < 1 by decide) rfl ?_
  refine g_goto (tgt := 21) dL_open_10 (by decide) ?_
  refine g_iconst (v := 0) dL_open_21 (by decide) ?_
  refine g_ireturn dL_open_22 rfl rfl (by decide) ?_
  exact Or.inl ⟨rfl, z, _, hq, rfl⟩
  rcases hE _ _ q with rfl | rfl
  · refine g_catch (E := "java/lang/IndexOutOfBoundsException") (name := "java/lang/IndexOutOfBoundsException") (pre := []) (x := (0, 10, 13, 20)) (suf := [(0, 10, 17, 53)]) rfl (by decide) ctIOB (fun z hz => absurd hz (by simp)) rfl (by decide) lkIOB (fun q9 => ?_)
    refine s_aw dL_open_13 rfl rfl rfl ?_
    dsimp only [List.set]
    refine g_iconst (v := 1) dL_open_15 (by decide) ?_
    refine g_ireturn dL_open_16 rfl rfl (by decide) ?_
    exact Or.inr ⟨0, _, rfl, rfl, q⟩
  · refine g_catch (E := "java/util/NoSuchElementException") (name := "java/util/NoSuchElementException") (pre := [(0, 10, 13, 20)]) (x := (0, 10, 17, 53)) (suf := []) rfl (by decide) ctNSE (by intro z hz; simp only [List.mem_cons, List.not_mem_nil, or_false] at hz; rcases hz with rfl <;> first | exact ⟨by decide, _, lkIOB, by decide, by decide⟩) rfl (by decide) lkNSE (fun q9 => ?_)
    refine s_aw dL_open_17 rfl rfl rfl ?_
    dsimp only [List.set]
    refine g_iconst (v := 2) dL_open_19 (by decide) ?_
    refine g_ireturn dL_open_20 rfl rfl (by decide) ?_
    exact Or.inr ⟨1, _, rfl, rfl, q⟩
set_option maxRecDepth 100000 in
theorem mL_why {l : Launch} {G : ux_G} {h : ux_H} {a b : Int32} {Q : Option Value → ux_H → Prop} {X : String → ux_H → Prop} (hM : ux_M l G yX5_why iX5_why 6 4 [.ref 176, .int a, .int b] h Q X) (hv : ∀ v h', Q v h' → ∃ z, v = some (.int z)) (hE : ∀ E h', X E h' → E = "java/lang/IndexOutOfBoundsException" ∨ E = "java/lang/IllegalStateException") : ux_M l G yL_why iL_why 7 4 [.ref 176, .int a, .int b, .ref 202] h (QW Q X ["java/lang/IndexOutOfBoundsException", "java/lang/IllegalStateException"]) (fun _ _ => False) := by
  refine ux_entX (L' := [some (.ref 176), some (.int a), some (.int b), some (.ref 202), none]) kL_why (List.cons_ne_nil _ _) rfl rfl rfl ?_
  refine g_aload_n dL_why_0 rfl ?_
  refine g_iconst (v := 0) dL_why_1 (by decide) ?_
  refine g_aload_n dL_why_2 rfl ?_
  refine g_iload_n dL_why_3 rfl ?_
  refine g_iload_n dL_why_4 rfl ?_
  refine q_V (u' := 4) lL_74 kX5_why (hM) dL_why_5 rfl rfl rfl rfl rfl rfl rfl rfl (fun v h5 hq => ?_) (fun E hx q => ?_)
  obtain ⟨z, rfl⟩ := hv _ _ hq
  dsimp only [Option.toList, List.cons_append, List.nil_append]
  refine g_i2l dL_why_8 ?_
  refine g_last dL_why_9 rfl (show 0 < 1 by decide) rfl ?_
  refine g_goto (tgt := 21) dL_why_10 (by decide) ?_
  refine g_iconst (v := 0) dL_why_21 (by decide) ?_
  refine g_ireturn dL_why_22 rfl rfl (by decide) ?_
  exact Or.inl ⟨rfl, z, _, hq, rfl⟩
  rcases hE _ _ q with rfl | rfl
  · refine g_catch (E := "java/lang/IndexOutOfBoundsException") (name := "java/lang/IndexOutOfBoundsException") (pre := []) (x := (0, 10, 13, 20)) (suf := [(0, 10, 17, 15)]) rfl (by decide) ctIOB (fun z hz => absurd hz (by simp)) rfl (by decide) lkIOB (fun q9 => ?_)
    refine s_aw dL_why_13 rfl rfl rfl ?_
    dsimp only [List.set]
    refine g_iconst (v := 1) dL_why_15 (by decide) ?_
    refine g_ireturn dL_why_16 rfl rfl (by decide) ?_
    exact Or.inr ⟨0, _, rfl, rfl, q⟩
  · refine g_catch (E := "java/lang/IllegalStateException") (name := "java/lang/IllegalStateException") (pre := [(0, 10, 13, 20)]) (x := (0, 10, 17, 15)) (suf := []) rfl (by decide) ctISE (by intro z hz; simp only [List.mem_cons, List.not_mem_nil, or_false] at hz; rcases hz with rfl <;> first | exact ⟨by decide, _, lkIOB, by decide, by decide⟩) rfl (by decide) lkISE (fun q9 => ?_)
    refine s_aw dL_why_17 rfl rfl rfl ?_
    dsimp only [List.set]
    refine g_iconst (v := 2) dL_why_19 (by decide) ?_
    refine g_ireturn dL_why_20 rfl rfl (by decide) ?_
    exact Or.inr ⟨1, _, rfl, rfl, q⟩
set_option maxRecDepth 100000 in
theorem mL_points {l : Launch} {G : ux_G} {h : ux_H} {a b : Int32} {Q : Option Value → ux_H → Prop} {X : String → ux_H → Prop} (hM : ux_M l G yX5_points iX5_points 5 3 [.ref 176, .int a, .int b] h Q X) (hv : ∀ v h', Q v h' → ∃ z, v = some (.int z)) (hE : ∀ E h', X E h' → E = "java/lang/IndexOutOfBoundsException") : ux_M l G yL_points iL_points 6 3 [.ref 176, .int a, .int b, .ref 202] h (QW Q X ["java/lang/IndexOutOfBoundsException"]) (fun _ _ => False) := by
  refine ux_entX (L' := [some (.ref 176), some (.int a), some (.int b), some (.ref 202), none]) kL_points (List.cons_ne_nil _ _) rfl rfl rfl ?_
  refine g_aload_n dL_points_0 rfl ?_
  refine g_iconst (v := 0) dL_points_1 (by decide) ?_
  refine g_aload_n dL_points_2 rfl ?_
  refine g_iload_n dL_points_3 rfl ?_
  refine g_iload_n dL_points_4 rfl ?_
  refine q_V (u' := 3) lL_77 kX5_points (hM) dL_points_5 rfl rfl rfl rfl rfl rfl rfl rfl (fun v h5 hq => ?_) (fun E hx q => ?_)
  obtain ⟨z, rfl⟩ := hv _ _ hq
  dsimp only [Option.toList, List.cons_append, List.nil_append]
  refine g_i2l dL_points_8 ?_
  refine g_last dL_points_9 rfl (show 0 < 1 by decide) rfl ?_
  refine g_goto (tgt := 17) dL_points_10 (by decide) ?_
  refine g_iconst (v := 0) dL_points_17 (by decide) ?_
  refine g_ireturn dL_points_18 rfl rfl (by decide) ?_
  exact Or.inl ⟨rfl, z, _, hq, rfl⟩
  rcases hE _ _ q with rfl
  · refine g_catch (E := "java/lang/IndexOutOfBoundsException") (name := "java/lang/IndexOutOfBoundsException") (pre := []) (x := (0, 10, 13, 20)) (suf := []) rfl (by decide) ctIOB (fun z hz => absurd hz (by simp)) rfl (by decide) lkIOB (fun q9 => ?_)
    refine s_aw dL_points_13 rfl rfl rfl ?_
    dsimp only [List.set]
    refine g_iconst (v := 1) dL_points_15 (by decide) ?_
    refine g_ireturn dL_points_16 rfl rfl (by decide) ?_
    exact Or.inr ⟨0, _, rfl, rfl, q⟩
set_option maxRecDepth 100000 in
theorem mL_suggestion {l : Launch} {G : ux_G} {h : ux_H} {a : Int32} {Q : Option Value → ux_H → Prop} {X : String → ux_H → Prop} (hM : ux_M l G yX5_suggestion iX5_suggestion 8 4 [.ref 176, .int a] h Q X) (hv : ∀ v h', Q v h' → ∃ z, v = some (.int z)) (hE : ∀ E h', X E h' → E = "java/lang/IndexOutOfBoundsException" ∨ E = "java/lang/IllegalStateException" ∨ E = "java/util/NoSuchElementException") : ux_M l G yL_suggestion iL_suggestion 9 4 [.ref 176, .int a, .ref 202] h (QW Q X ["java/lang/IndexOutOfBoundsException", "java/lang/IllegalStateException", "java/util/NoSuchElementException"]) (fun _ _ => False) := by
  refine ux_entX (L' := [some (.ref 176), some (.int a), some (.ref 202), none]) kL_suggestion (List.cons_ne_nil _ _) rfl rfl rfl ?_
  refine g_aload_n dL_suggestion_0 rfl ?_
  refine g_iconst (v := 0) dL_suggestion_1 (by decide) ?_
  refine g_aload_n dL_suggestion_2 rfl ?_
  refine g_iload_n dL_suggestion_3 rfl ?_
  refine q_V (u' := 4) lL_80 kX5_suggestion (hM) dL_suggestion_4 rfl rfl rfl rfl rfl rfl rfl rfl (fun v h4 hq => ?_) (fun E hx q => ?_)
  obtain ⟨z, rfl⟩ := hv _ _ hq
  dsimp only [Option.toList, List.cons_append, List.nil_append]
  refine g_i2l dL_suggestion_7 ?_
  refine g_last dL_suggestion_8 rfl (show 0 < 1 by decide) rfl ?_
  refine g_goto (tgt := 21) dL_suggestion_9 (by decide) ?_
  refine g_iconst (v := 0) dL_suggestion_21 (by decide) ?_
  refine g_ireturn dL_suggestion_22 rfl rfl (by decide) ?_
  exact Or.inl ⟨rfl, z, _, hq, rfl⟩
  rcases hE _ _ q with rfl | rfl | rfl
  · refine g_catch (E := "java/lang/IndexOutOfBoundsException") (name := "java/lang/IndexOutOfBoundsException") (pre := []) (x := (0, 9, 12, 20)) (suf := [(0, 9, 15, 15), (0, 9, 18, 53)]) rfl (by decide) ctIOB (fun z hz => absurd hz (by simp)) rfl (by decide) lkIOB (fun q9 => ?_)
    refine s_a (i := 3) dL_suggestion_12 rfl rfl rfl rfl ?_
    dsimp only [List.set]
    refine g_iconst (v := 1) dL_suggestion_13 (by decide) ?_
    refine g_ireturn dL_suggestion_14 rfl rfl (by decide) ?_
    exact Or.inr ⟨0, _, rfl, rfl, q⟩
  · refine g_catch (E := "java/lang/IllegalStateException") (name := "java/lang/IllegalStateException") (pre := [(0, 9, 12, 20)]) (x := (0, 9, 15, 15)) (suf := [(0, 9, 18, 53)]) rfl (by decide) ctISE (by intro z hz; simp only [List.mem_cons, List.not_mem_nil, or_false] at hz; rcases hz with rfl <;> first | exact ⟨by decide, _, lkIOB, by decide, by decide⟩) rfl (by decide) lkISE (fun q9 => ?_)
    refine s_a (i := 3) dL_suggestion_15 rfl rfl rfl rfl ?_
    dsimp only [List.set]
    refine g_iconst (v := 2) dL_suggestion_16 (by decide) ?_
    refine g_ireturn dL_suggestion_17 rfl rfl (by decide) ?_
    exact Or.inr ⟨1, _, rfl, rfl, q⟩
  · refine g_catch (E := "java/util/NoSuchElementException") (name := "java/util/NoSuchElementException") (pre := [(0, 9, 12, 20), (0, 9, 15, 15)]) (x := (0, 9, 18, 53)) (suf := []) rfl (by decide) ctNSE (by intro z hz; simp only [List.mem_cons, List.not_mem_nil, or_false] at hz; rcases hz with rfl | rfl <;> first | exact ⟨by decide, _, lkIOB, by decide, by decide⟩ | exact ⟨by decide, _, lkISE, by decide, by decide⟩) rfl (by decide) lkNSE (fun q9 => ?_)
    refine s_a (i := 3) dL_suggestion_18 rfl rfl rfl rfl ?_
    dsimp only [List.set]
    refine g_iconst (v := 3) dL_suggestion_19 (by decide) ?_
    refine g_ireturn dL_suggestion_20 rfl rfl (by decide) ?_
    exact Or.inr ⟨2, _, rfl, rfl, q⟩
set_option maxRecDepth 100000 in
theorem mL_cover {l : Launch} {G : ux_G} {h : ux_H} {a b : Int32} {Q : Option Value → ux_H → Prop} {X : String → ux_H → Prop} (hM : ux_M l G yX5_cover iX5_cover 7 4 [.ref 176, .int a, .int b] h Q X) (hv : ∀ v h', Q v h' → ∃ z, v = some (.int z)) (hE : ∀ E h', X E h' → E = "java/lang/IndexOutOfBoundsException" ∨ E = "java/lang/IllegalStateException" ∨ E = "java/lang/UnsupportedOperationException") : ux_M l G yL_cover iL_cover 8 4 [.ref 176, .int a, .int b, .ref 202] h (QW Q X ["java/lang/IndexOutOfBoundsException", "java/lang/IllegalStateException", "java/lang/UnsupportedOperationException"]) (fun _ _ => False) := by
  refine ux_entX (L' := [some (.ref 176), some (.int a), some (.int b), some (.ref 202), none]) kL_cover (List.cons_ne_nil _ _) rfl rfl rfl ?_
  refine g_aload_n dL_cover_0 rfl ?_
  refine g_iconst (v := 0) dL_cover_1 (by decide) ?_
  refine g_aload_n dL_cover_2 rfl ?_
  refine g_iload_n dL_cover_3 rfl ?_
  refine g_iload_n dL_cover_4 rfl ?_
  refine q_V (u' := 4) lL_83 kX5_cover (hM) dL_cover_5 rfl rfl rfl rfl rfl rfl rfl rfl (fun v h5 hq => ?_) (fun E hx q => ?_)
  obtain ⟨z, rfl⟩ := hv _ _ hq
  dsimp only [Option.toList, List.cons_append, List.nil_append]
  refine g_i2l dL_cover_8 ?_
  refine g_last dL_cover_9 rfl (show 0 < 1 by decide) rfl ?_
  refine g_goto (tgt := 25) dL_cover_10 (by decide) ?_
  refine g_iconst (v := 0) dL_cover_25 (by decide) ?_
  refine g_ireturn dL_cover_26 rfl rfl (by decide) ?_
  exact Or.inl ⟨rfl, z, _, hq, rfl⟩
  rcases hE _ _ q with rfl | rfl | rfl
  · refine g_catch (E := "java/lang/IndexOutOfBoundsException") (name := "java/lang/IndexOutOfBoundsException") (pre := []) (x := (0, 10, 13, 20)) (suf := [(0, 10, 17, 15), (0, 10, 21, 32)]) rfl (by decide) ctIOB (fun z hz => absurd hz (by simp)) rfl (by decide) lkIOB (fun q9 => ?_)
    refine s_aw dL_cover_13 rfl rfl rfl ?_
    dsimp only [List.set]
    refine g_iconst (v := 1) dL_cover_15 (by decide) ?_
    refine g_ireturn dL_cover_16 rfl rfl (by decide) ?_
    exact Or.inr ⟨0, _, rfl, rfl, q⟩
  · refine g_catch (E := "java/lang/IllegalStateException") (name := "java/lang/IllegalStateException") (pre := [(0, 10, 13, 20)]) (x := (0, 10, 17, 15)) (suf := [(0, 10, 21, 32)]) rfl (by decide) ctISE (by intro z hz; simp only [List.mem_cons, List.not_mem_nil, or_false] at hz; rcases hz with rfl <;> first | exact ⟨by decide, _, lkIOB, by decide, by decide⟩) rfl (by decide) lkISE (fun q9 => ?_)
    refine s_aw dL_cover_17 rfl rfl rfl ?_
    dsimp only [List.set]
    refine g_iconst (v := 2) dL_cover_19 (by decide) ?_
    refine g_ireturn dL_cover_20 rfl rfl (by decide) ?_
    exact Or.inr ⟨1, _, rfl, rfl, q⟩
  · refine g_catch (E := "java/lang/UnsupportedOperationException") (name := "java/lang/UnsupportedOperationException") (pre := [(0, 10, 13, 20), (0, 10, 17, 15)]) (x := (0, 10, 21, 32)) (suf := []) rfl (by decide) ctUOE (by intro z hz; simp only [List.mem_cons, List.not_mem_nil, or_false] at hz; rcases hz with rfl | rfl <;> first | exact ⟨by decide, _, lkIOB, by decide, by decide⟩ | exact ⟨by decide, _, lkISE, by decide, by decide⟩) rfl (by decide) lkUOE (fun q9 => ?_)
    refine s_aw dL_cover_21 rfl rfl rfl ?_
    dsimp only [List.set]
    refine g_iconst (v := 3) dL_cover_23 (by decide) ?_
    refine g_ireturn dL_cover_24 rfl rfl (by decide) ?_
    exact Or.inr ⟨2, _, rfl, rfl, q⟩
set_option maxRecDepth 100000 in
theorem mL_uncover {l : Launch} {G : ux_G} {h : ux_H} {a : Int32} {Q : Option Value → ux_H → Prop} {X : String → ux_H → Prop} (hM : ux_M l G yX5_uncover iX5_uncover 8 3 [.ref 176, .int a] h Q X) (hv : ∀ v h', Q v h' → ∃ z, v = some (.int z)) (hE : ∀ E h', X E h' → E = "java/lang/IndexOutOfBoundsException" ∨ E = "java/lang/IllegalStateException") : ux_M l G yL_uncover iL_uncover 9 3 [.ref 176, .int a, .ref 202] h (QW Q X ["java/lang/IndexOutOfBoundsException", "java/lang/IllegalStateException"]) (fun _ _ => False) := by
  refine ux_entX (L' := [some (.ref 176), some (.int a), some (.ref 202), none]) kL_uncover (List.cons_ne_nil _ _) rfl rfl rfl ?_
  refine g_aload_n dL_uncover_0 rfl ?_
  refine g_iconst (v := 0) dL_uncover_1 (by decide) ?_
  refine g_aload_n dL_uncover_2 rfl ?_
  refine g_iload_n dL_uncover_3 rfl ?_
  refine q_V (u' := 3) lL_86 kX5_uncover (hM) dL_uncover_4 rfl rfl rfl rfl rfl rfl rfl rfl (fun v h4 hq => ?_) (fun E hx q => ?_)
  obtain ⟨z, rfl⟩ := hv _ _ hq
  dsimp only [Option.toList, List.cons_append, List.nil_append]
  refine g_i2l dL_uncover_7 ?_
  refine g_last dL_uncover_8 rfl (show 0 < 1 by decide) rfl ?_
  refine g_goto (tgt := 18) dL_uncover_9 (by decide) ?_
  refine g_iconst (v := 0) dL_uncover_18 (by decide) ?_
  refine g_ireturn dL_uncover_19 rfl rfl (by decide) ?_
  exact Or.inl ⟨rfl, z, _, hq, rfl⟩
  rcases hE _ _ q with rfl | rfl
  · refine g_catch (E := "java/lang/IndexOutOfBoundsException") (name := "java/lang/IndexOutOfBoundsException") (pre := []) (x := (0, 9, 12, 20)) (suf := [(0, 9, 15, 15)]) rfl (by decide) ctIOB (fun z hz => absurd hz (by simp)) rfl (by decide) lkIOB (fun q9 => ?_)
    refine s_a (i := 3) dL_uncover_12 rfl rfl rfl rfl ?_
    dsimp only [List.set]
    refine g_iconst (v := 1) dL_uncover_13 (by decide) ?_
    refine g_ireturn dL_uncover_14 rfl rfl (by decide) ?_
    exact Or.inr ⟨0, _, rfl, rfl, q⟩
  · refine g_catch (E := "java/lang/IllegalStateException") (name := "java/lang/IllegalStateException") (pre := [(0, 9, 12, 20)]) (x := (0, 9, 15, 15)) (suf := []) rfl (by decide) ctISE (by intro z hz; simp only [List.mem_cons, List.not_mem_nil, or_false] at hz; rcases hz with rfl <;> first | exact ⟨by decide, _, lkIOB, by decide, by decide⟩) rfl (by decide) lkISE (fun q9 => ?_)
    refine s_a (i := 3) dL_uncover_15 rfl rfl rfl rfl ?_
    dsimp only [List.set]
    refine g_iconst (v := 2) dL_uncover_16 (by decide) ?_
    refine g_ireturn dL_uncover_17 rfl rfl (by decide) ?_
    exact Or.inr ⟨1, _, rfl, rfl, q⟩
set_option maxRecDepth 100000 in
theorem mL_split {l : Launch} {G : ux_G} {h : ux_H} {a b c : Int32} {Q : Option Value → ux_H → Prop} {X : String → ux_H → Prop} (hM : ux_M l G yX5_split iX5_split 10 5 [.ref 176, .int a, .int b, .int c] h Q X) (hv : ∀ v h', Q v h' → ∃ z, v = some (.int z)) (hE : ∀ E h', X E h' → E = "java/lang/IndexOutOfBoundsException" ∨ E = "java/lang/IllegalStateException" ∨ E = "java/lang/IllegalArgumentException" ∨ E = "java/lang/UnsupportedOperationException") : ux_M l G yL_split iL_split 11 5 [.ref 176, .int a, .int b, .int c, .ref 202] h (QW Q X ["java/lang/IndexOutOfBoundsException", "java/lang/IllegalStateException", "java/lang/IllegalArgumentException", "java/lang/UnsupportedOperationException"]) (fun _ _ => False) := by
  refine ux_entX (L' := [some (.ref 176), some (.int a), some (.int b), some (.int c), some (.ref 202), none]) kL_split (List.cons_ne_nil _ _) rfl rfl rfl ?_
  refine g_aload dL_split_0 rfl ?_
  refine g_iconst (v := 0) dL_split_2 (by decide) ?_
  refine g_aload_n dL_split_3 rfl ?_
  refine g_iload_n dL_split_4 rfl ?_
  refine g_iload_n dL_split_5 rfl ?_
  refine g_iload_n dL_split_6 rfl ?_
  refine q_V (u' := 5) lL_89 kX5_split (hM) dL_split_7 rfl rfl rfl rfl rfl rfl rfl rfl (fun v h7 hq => ?_) (fun E hx q => ?_)
  obtain ⟨z, rfl⟩ := hv _ _ hq
  dsimp only [Option.toList, List.cons_append, List.nil_append]
  refine g_i2l dL_split_10 ?_
  refine g_last dL_split_11 rfl (show 0 < 1 by decide) rfl ?_
  refine g_goto (tgt := 31) dL_split_12 (by decide) ?_
  refine g_iconst (v := 0) dL_split_31 (by decide) ?_
  refine g_ireturn dL_split_32 rfl rfl (by decide) ?_
  exact Or.inl ⟨rfl, z, _, hq, rfl⟩
  rcases hE _ _ q with rfl | rfl | rfl | rfl
  · refine g_catch (E := "java/lang/IndexOutOfBoundsException") (name := "java/lang/IndexOutOfBoundsException") (pre := []) (x := (0, 12, 15, 20)) (suf := [(0, 12, 19, 15), (0, 12, 23, 13), (0, 12, 27, 32)]) rfl (by decide) ctIOB (fun z hz => absurd hz (by simp)) rfl (by decide) lkIOB (fun q9 => ?_)
    refine s_aw dL_split_15 rfl rfl rfl ?_
    dsimp only [List.set]
    refine g_iconst (v := 1) dL_split_17 (by decide) ?_
    refine g_ireturn dL_split_18 rfl rfl (by decide) ?_
    exact Or.inr ⟨0, _, rfl, rfl, q⟩
  · refine g_catch (E := "java/lang/IllegalStateException") (name := "java/lang/IllegalStateException") (pre := [(0, 12, 15, 20)]) (x := (0, 12, 19, 15)) (suf := [(0, 12, 23, 13), (0, 12, 27, 32)]) rfl (by decide) ctISE (by intro z hz; simp only [List.mem_cons, List.not_mem_nil, or_false] at hz; rcases hz with rfl <;> first | exact ⟨by decide, _, lkIOB, by decide, by decide⟩) rfl (by decide) lkISE (fun q9 => ?_)
    refine s_aw dL_split_19 rfl rfl rfl ?_
    dsimp only [List.set]
    refine g_iconst (v := 2) dL_split_21 (by decide) ?_
    refine g_ireturn dL_split_22 rfl rfl (by decide) ?_
    exact Or.inr ⟨1, _, rfl, rfl, q⟩
  · refine g_catch (E := "java/lang/IllegalArgumentException") (name := "java/lang/IllegalArgumentException") (pre := [(0, 12, 15, 20), (0, 12, 19, 15)]) (x := (0, 12, 23, 13)) (suf := [(0, 12, 27, 32)]) rfl (by decide) ctIAE (by intro z hz; simp only [List.mem_cons, List.not_mem_nil, or_false] at hz; rcases hz with rfl | rfl <;> first | exact ⟨by decide, _, lkIOB, by decide, by decide⟩ | exact ⟨by decide, _, lkISE, by decide, by decide⟩) rfl (by decide) lkIAE (fun q9 => ?_)
    refine s_aw dL_split_23 rfl rfl rfl ?_
    dsimp only [List.set]
    refine g_iconst (v := 3) dL_split_25 (by decide) ?_
    refine g_ireturn dL_split_26 rfl rfl (by decide) ?_
    exact Or.inr ⟨2, _, rfl, rfl, q⟩
  · refine g_catch (E := "java/lang/UnsupportedOperationException") (name := "java/lang/UnsupportedOperationException") (pre := [(0, 12, 15, 20), (0, 12, 19, 15), (0, 12, 23, 13)]) (x := (0, 12, 27, 32)) (suf := []) rfl (by decide) ctUOE (by intro z hz; simp only [List.mem_cons, List.not_mem_nil, or_false] at hz; rcases hz with rfl | rfl | rfl <;> first | exact ⟨by decide, _, lkIOB, by decide, by decide⟩ | exact ⟨by decide, _, lkISE, by decide, by decide⟩ | exact ⟨by decide, _, lkIAE, by decide, by decide⟩) rfl (by decide) lkUOE (fun q9 => ?_)
    refine s_aw dL_split_27 rfl rfl rfl ?_
    dsimp only [List.set]
    refine g_iconst (v := 4) dL_split_29 (by decide) ?_
    refine g_ireturn dL_split_30 rfl rfl (by decide) ?_
    exact Or.inr ⟨3, _, rfl, rfl, q⟩
set_option maxRecDepth 100000 in
theorem mL_unsplit {l : Launch} {G : ux_G} {h : ux_H} {a : Int32} {Q : Option Value → ux_H → Prop} {X : String → ux_H → Prop} (hM : ux_M l G yX5_unsplit iX5_unsplit 8 3 [.ref 176, .int a] h Q X) (hv : ∀ v h', Q v h' → ∃ z, v = some (.int z)) (hE : ∀ E h', X E h' → E = "java/lang/IndexOutOfBoundsException" ∨ E = "java/lang/IllegalStateException") : ux_M l G yL_unsplit iL_unsplit 9 3 [.ref 176, .int a, .ref 202] h (QW Q X ["java/lang/IndexOutOfBoundsException", "java/lang/IllegalStateException"]) (fun _ _ => False) := by
  refine ux_entX (L' := [some (.ref 176), some (.int a), some (.ref 202), none]) kL_unsplit (List.cons_ne_nil _ _) rfl rfl rfl ?_
  refine g_aload_n dL_unsplit_0 rfl ?_
  refine g_iconst (v := 0) dL_unsplit_1 (by decide) ?_
  refine g_aload_n dL_unsplit_2 rfl ?_
  refine g_iload_n dL_unsplit_3 rfl ?_
  refine q_V (u' := 3) lL_93 kX5_unsplit (hM) dL_unsplit_4 rfl rfl rfl rfl rfl rfl rfl rfl (fun v h4 hq => ?_) (fun E hx q => ?_)
  obtain ⟨z, rfl⟩ := hv _ _ hq
  dsimp only [Option.toList, List.cons_append, List.nil_append]
  refine g_i2l dL_unsplit_7 ?_
  refine g_last dL_unsplit_8 rfl (show 0 < 1 by decide) rfl ?_
  refine g_goto (tgt := 18) dL_unsplit_9 (by decide) ?_
  refine g_iconst (v := 0) dL_unsplit_18 (by decide) ?_
  refine g_ireturn dL_unsplit_19 rfl rfl (by decide) ?_
  exact Or.inl ⟨rfl, z, _, hq, rfl⟩
  rcases hE _ _ q with rfl | rfl
  · refine g_catch (E := "java/lang/IndexOutOfBoundsException") (name := "java/lang/IndexOutOfBoundsException") (pre := []) (x := (0, 9, 12, 20)) (suf := [(0, 9, 15, 15)]) rfl (by decide) ctIOB (fun z hz => absurd hz (by simp)) rfl (by decide) lkIOB (fun q9 => ?_)
    refine s_a (i := 3) dL_unsplit_12 rfl rfl rfl rfl ?_
    dsimp only [List.set]
    refine g_iconst (v := 1) dL_unsplit_13 (by decide) ?_
    refine g_ireturn dL_unsplit_14 rfl rfl (by decide) ?_
    exact Or.inr ⟨0, _, rfl, rfl, q⟩
  · refine g_catch (E := "java/lang/IllegalStateException") (name := "java/lang/IllegalStateException") (pre := [(0, 9, 12, 20)]) (x := (0, 9, 15, 15)) (suf := []) rfl (by decide) ctISE (by intro z hz; simp only [List.mem_cons, List.not_mem_nil, or_false] at hz; rcases hz with rfl <;> first | exact ⟨by decide, _, lkIOB, by decide, by decide⟩) rfl (by decide) lkISE (fun q9 => ?_)
    refine s_a (i := 3) dL_unsplit_15 rfl rfl rfl rfl ?_
    dsimp only [List.set]
    refine g_iconst (v := 2) dL_unsplit_16 (by decide) ?_
    refine g_ireturn dL_unsplit_17 rfl rfl (by decide) ?_
    exact Or.inr ⟨1, _, rfl, rfl, q⟩
set_option maxRecDepth 100000 in
theorem mL_host {l : Launch} {G : ux_G} {h : ux_H} {a b : Int32} {Q : Option Value → ux_H → Prop} {X : String → ux_H → Prop} (hM : ux_M l G yX5_host iX5_host 7 3 [.ref 176, .int a, .int b] h Q X) (hv : ∀ v h', Q v h' → ∃ z, v = some (.int z)) (hE : ∀ E h', X E h' → E = "java/lang/IndexOutOfBoundsException" ∨ E = "java/lang/IllegalStateException") : ux_M l G yL_host iL_host 8 3 [.ref 176, .int a, .int b, .ref 202] h (QW Q X ["java/lang/IndexOutOfBoundsException", "java/lang/IllegalStateException"]) (fun _ _ => False) := by
  refine ux_entX (L' := [some (.ref 176), some (.int a), some (.int b), some (.ref 202), none]) kL_host (List.cons_ne_nil _ _) rfl rfl rfl ?_
  refine g_aload_n dL_host_0 rfl ?_
  refine g_iconst (v := 0) dL_host_1 (by decide) ?_
  refine g_aload_n dL_host_2 rfl ?_
  refine g_iload_n dL_host_3 rfl ?_
  refine g_iload_n dL_host_4 rfl ?_
  refine q_V (u' := 3) lL_96 kX5_host (hM) dL_host_5 rfl rfl rfl rfl rfl rfl rfl rfl (fun v h5 hq => ?_) (fun E hx q => ?_)
  obtain ⟨z, rfl⟩ := hv _ _ hq
  dsimp only [Option.toList, List.cons_append, List.nil_append]
  refine g_i2l dL_host_8 ?_
  refine g_last dL_host_9 rfl (show 0 < 1 by decide) rfl ?_
  refine g_goto (tgt := 21) dL_host_10 (by decide) ?_
  refine g_iconst (v := 0) dL_host_21 (by decide) ?_
  refine g_ireturn dL_host_22 rfl rfl (by decide) ?_
  exact Or.inl ⟨rfl, z, _, hq, rfl⟩
  rcases hE _ _ q with rfl | rfl
  · refine g_catch (E := "java/lang/IndexOutOfBoundsException") (name := "java/lang/IndexOutOfBoundsException") (pre := []) (x := (0, 10, 13, 20)) (suf := [(0, 10, 17, 15)]) rfl (by decide) ctIOB (fun z hz => absurd hz (by simp)) rfl (by decide) lkIOB (fun q9 => ?_)
    refine s_aw dL_host_13 rfl rfl rfl ?_
    dsimp only [List.set]
    refine g_iconst (v := 1) dL_host_15 (by decide) ?_
    refine g_ireturn dL_host_16 rfl rfl (by decide) ?_
    exact Or.inr ⟨0, _, rfl, rfl, q⟩
  · refine g_catch (E := "java/lang/IllegalStateException") (name := "java/lang/IllegalStateException") (pre := [(0, 10, 13, 20)]) (x := (0, 10, 17, 15)) (suf := []) rfl (by decide) ctISE (by intro z hz; simp only [List.mem_cons, List.not_mem_nil, or_false] at hz; rcases hz with rfl <;> first | exact ⟨by decide, _, lkIOB, by decide, by decide⟩) rfl (by decide) lkISE (fun q9 => ?_)
    refine s_aw dL_host_17 rfl rfl rfl ?_
    dsimp only [List.set]
    refine g_iconst (v := 2) dL_host_19 (by decide) ?_
    refine g_ireturn dL_host_20 rfl rfl (by decide) ?_
    exact Or.inr ⟨1, _, rfl, rfl, q⟩
set_option maxRecDepth 100000 in
theorem mL_refusal {l : Launch} {G : ux_G} {h : ux_H} {Q : Option Value → ux_H → Prop} {X : String → ux_H → Prop} (hM : ux_M l G yX5_refusal iX5_refusal 3 1 [.ref 176] h Q X) (hv : ∀ v h', Q v h' → ∃ z, v = some (.int z)) (hE : ∀ E h', X E h' → E = "java/util/NoSuchElementException") : ux_M l G yL_refusal iL_refusal 4 1 [.ref 176, .ref 202] h (QW Q X ["java/util/NoSuchElementException"]) (fun _ _ => False) := by
  refine ux_entX (L' := [some (.ref 176), some (.ref 202), none]) kL_refusal (List.cons_ne_nil _ _) rfl rfl rfl ?_
  refine g_aload_n dL_refusal_0 rfl ?_
  refine g_iconst (v := 0) dL_refusal_1 (by decide) ?_
  refine g_aload_n dL_refusal_2 rfl ?_
  refine q_V (u' := 1) lL_100 kX5_refusal (hM) dL_refusal_3 rfl rfl rfl rfl rfl rfl rfl rfl (fun v h3 hq => ?_) (fun E hx q => ?_)
  obtain ⟨z, rfl⟩ := hv _ _ hq
  dsimp only [Option.toList, List.cons_append, List.nil_append]
  refine g_i2l dL_refusal_6 ?_
  refine g_last dL_refusal_7 rfl (show 0 < 1 by decide) rfl ?_
  refine g_goto (tgt := 14) dL_refusal_8 (by decide) ?_
  refine g_iconst (v := 0) dL_refusal_14 (by decide) ?_
  refine g_ireturn dL_refusal_15 rfl rfl (by decide) ?_
  exact Or.inl ⟨rfl, z, _, hq, rfl⟩
  rcases hE _ _ q with rfl
  · refine g_catch (E := "java/util/NoSuchElementException") (name := "java/util/NoSuchElementException") (pre := []) (x := (0, 8, 11, 53)) (suf := []) rfl (by decide) ctNSE (fun z hz => absurd hz (by simp)) rfl (by decide) lkNSE (fun q9 => ?_)
    refine s_a (i := 2) dL_refusal_11 rfl rfl rfl rfl ?_
    dsimp only [List.set]
    refine g_iconst (v := 1) dL_refusal_12 (by decide) ?_
    refine g_ireturn dL_refusal_13 rfl rfl (by decide) ?_
    exact Or.inr ⟨0, _, rfl, rfl, q⟩
set_option maxRecDepth 100000 in
theorem mL_coverDay {l : Launch} {G : ux_G} {h : ux_H} {a : Int32} {Q : Option Value → ux_H → Prop} {X : String → ux_H → Prop} (hM : ux_M l G yX5_coverDay iX5_coverDay 9 2 [.ref 176, .int a] h Q X) (hv : ∀ v h', Q v h' → ∃ z, v = some (.int z)) (hE : ∀ E h', X E h' → E = "java/lang/IndexOutOfBoundsException") : ux_M l G yL_coverDay iL_coverDay 10 2 [.ref 176, .int a, .ref 202] h (QW Q X ["java/lang/IndexOutOfBoundsException"]) (fun _ _ => False) := by
  refine ux_entX (L' := [some (.ref 176), some (.int a), some (.ref 202), none]) kL_coverDay (List.cons_ne_nil _ _) rfl rfl rfl ?_
  refine g_aload_n dL_coverDay_0 rfl ?_
  refine g_iconst (v := 0) dL_coverDay_1 (by decide) ?_
  refine g_aload_n dL_coverDay_2 rfl ?_
  refine g_iload_n dL_coverDay_3 rfl ?_
  refine q_V (u' := 2) lL_104 kX5_coverDay (hM) dL_coverDay_4 rfl rfl rfl rfl rfl rfl rfl rfl (fun v h4 hq => ?_) (fun E hx q => ?_)
  obtain ⟨z, rfl⟩ := hv _ _ hq
  dsimp only [Option.toList, List.cons_append, List.nil_append]
  refine g_i2l dL_coverDay_7 ?_
  refine g_last dL_coverDay_8 rfl (show 0 < 1 by decide) rfl ?_
  refine g_goto (tgt := 15) dL_coverDay_9 (by decide) ?_
  refine g_iconst (v := 0) dL_coverDay_15 (by decide) ?_
  refine g_ireturn dL_coverDay_16 rfl rfl (by decide) ?_
  exact Or.inl ⟨rfl, z, _, hq, rfl⟩
  rcases hE _ _ q with rfl
  · refine g_catch (E := "java/lang/IndexOutOfBoundsException") (name := "java/lang/IndexOutOfBoundsException") (pre := []) (x := (0, 9, 12, 20)) (suf := []) rfl (by decide) ctIOB (fun z hz => absurd hz (by simp)) rfl (by decide) lkIOB (fun q9 => ?_)
    refine s_a (i := 3) dL_coverDay_12 rfl rfl rfl rfl ?_
    dsimp only [List.set]
    refine g_iconst (v := 1) dL_coverDay_13 (by decide) ?_
    refine g_ireturn dL_coverDay_14 rfl rfl (by decide) ?_
    exact Or.inr ⟨0, _, rfl, rfl, q⟩
set_option maxRecDepth 100000 in
theorem mL_spread {l : Launch} {G : ux_G} {h : ux_H} {Q : Option Value → ux_H → Prop} {X : String → ux_H → Prop} (hM : ux_M l G yX5_spread iX5_spread 6 2 [.ref 176] h Q X) (hv : ∀ v h', Q v h' → ∃ z, v = some (.int z)) (hE : ∀ E h', X E h' → E = "java/util/NoSuchElementException") : ux_M l G yL_spread iL_spread 7 2 [.ref 176, .ref 202] h (QW Q X ["java/util/NoSuchElementException"]) (fun _ _ => False) := by
  refine ux_entX (L' := [some (.ref 176), some (.ref 202), none]) kL_spread (List.cons_ne_nil _ _) rfl rfl rfl ?_
  refine g_aload_n dL_spread_0 rfl ?_
  refine g_iconst (v := 0) dL_spread_1 (by decide) ?_
  refine g_aload_n dL_spread_2 rfl ?_
  refine q_V (u' := 2) lL_107 kX5_spread (hM) dL_spread_3 rfl rfl rfl rfl rfl rfl rfl rfl (fun v h3 hq => ?_) (fun E hx q => ?_)
  obtain ⟨z, rfl⟩ := hv _ _ hq
  dsimp only [Option.toList, List.cons_append, List.nil_append]
  refine g_i2l dL_spread_6 ?_
  refine g_last dL_spread_7 rfl (show 0 < 1 by decide) rfl ?_
  refine g_goto (tgt := 14) dL_spread_8 (by decide) ?_
  refine g_iconst (v := 0) dL_spread_14 (by decide) ?_
  refine g_ireturn dL_spread_15 rfl rfl (by decide) ?_
  exact Or.inl ⟨rfl, z, _, hq, rfl⟩
  rcases hE _ _ q with rfl
  · refine g_catch (E := "java/util/NoSuchElementException") (name := "java/util/NoSuchElementException") (pre := []) (x := (0, 8, 11, 53)) (suf := []) rfl (by decide) ctNSE (fun z hz => absurd hz (by simp)) rfl (by decide) lkNSE (fun q9 => ?_)
    refine s_a (i := 2) dL_spread_11 rfl rfl rfl rfl ?_
    dsimp only [List.set]
    refine g_iconst (v := 1) dL_spread_12 (by decide) ?_
    refine g_ireturn dL_spread_13 rfl rfl (by decide) ?_
    exact Or.inr ⟨0, _, rfl, rfl, q⟩
set_option maxRecDepth 100000 in
theorem mL_extreme {l : Launch} {G : ux_G} {h : ux_H} {a : Int32} {Q : Option Value → ux_H → Prop} {X : String → ux_H → Prop} (hM : ux_M l G yX5_extreme iX5_extreme 5 2 [.ref 176, .int a] h Q X) (hv : ∀ v h', Q v h' → ∃ z, v = some (.int z)) (hE : ∀ E h', X E h' → E = "java/util/NoSuchElementException") : ux_M l G yL_extreme iL_extreme 6 2 [.ref 176, .int a, .ref 202] h (QW Q X ["java/util/NoSuchElementException"]) (fun _ _ => False) := by
  refine ux_entX (L' := [some (.ref 176), some (.int a), some (.ref 202), none]) kL_extreme (List.cons_ne_nil _ _) rfl rfl rfl ?_
  refine g_aload_n dL_extreme_0 rfl ?_
  refine g_iconst (v := 0) dL_extreme_1 (by decide) ?_
  refine g_aload_n dL_extreme_2 rfl ?_
  refine g_iload_n dL_extreme_3 rfl ?_
  refine q_V (u' := 2) lL_110 kX5_extreme (hM) dL_extreme_4 rfl rfl rfl rfl rfl rfl rfl rfl (fun v h4 hq => ?_) (fun E hx q => ?_)
  obtain ⟨z, rfl⟩ := hv _ _ hq
  dsimp only [Option.toList, List.cons_append, List.nil_append]
  refine g_i2l dL_extreme_7 ?_
  refine g_last dL_extreme_8 rfl (show 0 < 1 by decide) rfl ?_
  refine g_goto (tgt := 15) dL_extreme_9 (by decide) ?_
  refine g_iconst (v := 0) dL_extreme_15 (by decide) ?_
  refine g_ireturn dL_extreme_16 rfl rfl (by decide) ?_
  exact Or.inl ⟨rfl, z, _, hq, rfl⟩
  rcases hE _ _ q with rfl
  · refine g_catch (E := "java/util/NoSuchElementException") (name := "java/util/NoSuchElementException") (pre := []) (x := (0, 9, 12, 53)) (suf := []) rfl (by decide) ctNSE (fun z hz => absurd hz (by simp)) rfl (by decide) lkNSE (fun q9 => ?_)
    refine s_a (i := 3) dL_extreme_12 rfl rfl rfl rfl ?_
    dsimp only [List.set]
    refine g_iconst (v := 1) dL_extreme_13 (by decide) ?_
    refine g_ireturn dL_extreme_14 rfl rfl (by decide) ?_
    exact Or.inr ⟨0, _, rfl, rfl, q⟩
set_option maxRecDepth 100000 in
theorem mL_plannedSpread {l : Launch} {G : ux_G} {h : ux_H} {a : Int32} {Q : Option Value → ux_H → Prop} {X : String → ux_H → Prop} (hM : ux_M l G yX5_plannedSpread iX5_plannedSpread 14 4 [.ref 176, .int a] h Q X) (hv : ∀ v h', Q v h' → ∃ z, v = some (.int z)) (hE : ∀ E h', X E h' → E = "java/lang/IndexOutOfBoundsException" ∨ E = "java/lang/IllegalStateException" ∨ E = "java/util/NoSuchElementException") : ux_M l G yL_plannedSpread iL_plannedSpread 15 4 [.ref 176, .int a, .ref 202] h (QW Q X ["java/lang/IndexOutOfBoundsException", "java/lang/IllegalStateException", "java/util/NoSuchElementException"]) (fun _ _ => False) := by
  refine ux_entX (L' := [some (.ref 176), some (.int a), some (.ref 202), none]) kL_plannedSpread (List.cons_ne_nil _ _) rfl rfl rfl ?_
  refine g_aload_n dL_plannedSpread_0 rfl ?_
  refine g_iconst (v := 0) dL_plannedSpread_1 (by decide) ?_
  refine g_aload_n dL_plannedSpread_2 rfl ?_
  refine g_iload_n dL_plannedSpread_3 rfl ?_
  refine q_V (u' := 4) lL_114 kX5_plannedSpread (hM) dL_plannedSpread_4 rfl rfl rfl rfl rfl rfl rfl rfl (fun v h4 hq => ?_) (fun E hx q => ?_)
  obtain ⟨z, rfl⟩ := hv _ _ hq
  dsimp only [Option.toList, List.cons_append, List.nil_append]
  refine g_i2l dL_plannedSpread_7 ?_
  refine g_last dL_plannedSpread_8 rfl (show 0 < 1 by decide) rfl ?_
  refine g_goto (tgt := 21) dL_plannedSpread_9 (by decide) ?_
  refine g_iconst (v := 0) dL_plannedSpread_21 (by decide) ?_
  refine g_ireturn dL_plannedSpread_22 rfl rfl (by decide) ?_
  exact Or.inl ⟨rfl, z, _, hq, rfl⟩
  rcases hE _ _ q with rfl | rfl | rfl
  · refine g_catch (E := "java/lang/IndexOutOfBoundsException") (name := "java/lang/IndexOutOfBoundsException") (pre := []) (x := (0, 9, 12, 20)) (suf := [(0, 9, 15, 15), (0, 9, 18, 53)]) rfl (by decide) ctIOB (fun z hz => absurd hz (by simp)) rfl (by decide) lkIOB (fun q9 => ?_)
    refine s_a (i := 3) dL_plannedSpread_12 rfl rfl rfl rfl ?_
    dsimp only [List.set]
    refine g_iconst (v := 1) dL_plannedSpread_13 (by decide) ?_
    refine g_ireturn dL_plannedSpread_14 rfl rfl (by decide) ?_
    exact Or.inr ⟨0, _, rfl, rfl, q⟩
  · refine g_catch (E := "java/lang/IllegalStateException") (name := "java/lang/IllegalStateException") (pre := [(0, 9, 12, 20)]) (x := (0, 9, 15, 15)) (suf := [(0, 9, 18, 53)]) rfl (by decide) ctISE (by intro z hz; simp only [List.mem_cons, List.not_mem_nil, or_false] at hz; rcases hz with rfl <;> first | exact ⟨by decide, _, lkIOB, by decide, by decide⟩) rfl (by decide) lkISE (fun q9 => ?_)
    refine s_a (i := 3) dL_plannedSpread_15 rfl rfl rfl rfl ?_
    dsimp only [List.set]
    refine g_iconst (v := 2) dL_plannedSpread_16 (by decide) ?_
    refine g_ireturn dL_plannedSpread_17 rfl rfl (by decide) ?_
    exact Or.inr ⟨1, _, rfl, rfl, q⟩
  · refine g_catch (E := "java/util/NoSuchElementException") (name := "java/util/NoSuchElementException") (pre := [(0, 9, 12, 20), (0, 9, 15, 15)]) (x := (0, 9, 18, 53)) (suf := []) rfl (by decide) ctNSE (by intro z hz; simp only [List.mem_cons, List.not_mem_nil, or_false] at hz; rcases hz with rfl | rfl <;> first | exact ⟨by decide, _, lkIOB, by decide, by decide⟩ | exact ⟨by decide, _, lkISE, by decide, by decide⟩) rfl (by decide) lkNSE (fun q9 => ?_)
    refine s_a (i := 3) dL_plannedSpread_18 rfl rfl rfl rfl ?_
    dsimp only [List.set]
    refine g_iconst (v := 3) dL_plannedSpread_19 (by decide) ?_
    refine g_ireturn dL_plannedSpread_20 rfl rfl (by decide) ?_
    exact Or.inr ⟨2, _, rfl, rfl, q⟩
set_option maxRecDepth 100000 in
theorem mL_planned {l : Launch} {G : ux_G} {h : ux_H} {a b : Int32} {Q : Option Value → ux_H → Prop} {X : String → ux_H → Prop} (hM : ux_M l G yX5_planned iX5_planned 14 4 [.ref 176, .int a, .int b] h Q X) (hv : ∀ v h', Q v h' → ∃ z, v = some (.int z)) (hE : ∀ E h', X E h' → E = "java/lang/IndexOutOfBoundsException" ∨ E = "java/lang/IllegalStateException" ∨ E = "java/util/NoSuchElementException") : ux_M l G yL_planned iL_planned 15 4 [.ref 176, .int a, .int b, .ref 202] h (QW Q X ["java/lang/IndexOutOfBoundsException", "java/lang/IllegalStateException", "java/util/NoSuchElementException"]) (fun _ _ => False) := by
  refine ux_entX (L' := [some (.ref 176), some (.int a), some (.int b), some (.ref 202), none]) kL_planned (List.cons_ne_nil _ _) rfl rfl rfl ?_
  refine g_aload_n dL_planned_0 rfl ?_
  refine g_iconst (v := 0) dL_planned_1 (by decide) ?_
  refine g_aload_n dL_planned_2 rfl ?_
  refine g_iload_n dL_planned_3 rfl ?_
  refine g_iload_n dL_planned_4 rfl ?_
  refine q_V (u' := 4) lL_117 kX5_planned (hM) dL_planned_5 rfl rfl rfl rfl rfl rfl rfl rfl (fun v h5 hq => ?_) (fun E hx q => ?_)
  obtain ⟨z, rfl⟩ := hv _ _ hq
  dsimp only [Option.toList, List.cons_append, List.nil_append]
  refine g_i2l dL_planned_8 ?_
  refine g_last dL_planned_9 rfl (show 0 < 1 by decide) rfl ?_
  refine g_goto (tgt := 25) dL_planned_10 (by decide) ?_
  refine g_iconst (v := 0) dL_planned_25 (by decide) ?_
  refine g_ireturn dL_planned_26 rfl rfl (by decide) ?_
  exact Or.inl ⟨rfl, z, _, hq, rfl⟩
  rcases hE _ _ q with rfl | rfl | rfl
  · refine g_catch (E := "java/lang/IndexOutOfBoundsException") (name := "java/lang/IndexOutOfBoundsException") (pre := []) (x := (0, 10, 13, 20)) (suf := [(0, 10, 17, 15), (0, 10, 21, 53)]) rfl (by decide) ctIOB (fun z hz => absurd hz (by simp)) rfl (by decide) lkIOB (fun q9 => ?_)
    refine s_aw dL_planned_13 rfl rfl rfl ?_
    dsimp only [List.set]
    refine g_iconst (v := 1) dL_planned_15 (by decide) ?_
    refine g_ireturn dL_planned_16 rfl rfl (by decide) ?_
    exact Or.inr ⟨0, _, rfl, rfl, q⟩
  · refine g_catch (E := "java/lang/IllegalStateException") (name := "java/lang/IllegalStateException") (pre := [(0, 10, 13, 20)]) (x := (0, 10, 17, 15)) (suf := [(0, 10, 21, 53)]) rfl (by decide) ctISE (by intro z hz; simp only [List.mem_cons, List.not_mem_nil, or_false] at hz; rcases hz with rfl <;> first | exact ⟨by decide, _, lkIOB, by decide, by decide⟩) rfl (by decide) lkISE (fun q9 => ?_)
    refine s_aw dL_planned_17 rfl rfl rfl ?_
    dsimp only [List.set]
    refine g_iconst (v := 2) dL_planned_19 (by decide) ?_
    refine g_ireturn dL_planned_20 rfl rfl (by decide) ?_
    exact Or.inr ⟨1, _, rfl, rfl, q⟩
  · refine g_catch (E := "java/util/NoSuchElementException") (name := "java/util/NoSuchElementException") (pre := [(0, 10, 13, 20), (0, 10, 17, 15)]) (x := (0, 10, 21, 53)) (suf := []) rfl (by decide) ctNSE (by intro z hz; simp only [List.mem_cons, List.not_mem_nil, or_false] at hz; rcases hz with rfl | rfl <;> first | exact ⟨by decide, _, lkIOB, by decide, by decide⟩ | exact ⟨by decide, _, lkISE, by decide, by decide⟩) rfl (by decide) lkNSE (fun q9 => ?_)
    refine s_aw dL_planned_21 rfl rfl rfl ?_
    dsimp only [List.set]
    refine g_iconst (v := 3) dL_planned_23 (by decide) ?_
    refine g_ireturn dL_planned_24 rfl rfl (by decide) ?_
    exact Or.inr ⟨2, _, rfl, rfl, q⟩
set_option maxRecDepth 100000 in
theorem mL_carryOut {l : Launch} {G : ux_G} {h : ux_H} {a : Int32} {Q : Option Value → ux_H → Prop} {X : String → ux_H → Prop} (hM : ux_M l G yX5_carryOut iX5_carryOut 14 4 [.ref 176, .int a] h Q X) (hv : ∀ v h', Q v h' → ∃ z, v = some (.int z)) (hE : ∀ E h', X E h' → E = "java/lang/IndexOutOfBoundsException" ∨ E = "java/lang/IllegalStateException" ∨ E = "java/util/NoSuchElementException") : ux_M l G yL_carryOut iL_carryOut 15 4 [.ref 176, .int a, .ref 202] h (QW Q X ["java/lang/IndexOutOfBoundsException", "java/lang/IllegalStateException", "java/util/NoSuchElementException"]) (fun _ _ => False) := by
  refine ux_entX (L' := [some (.ref 176), some (.int a), some (.ref 202), none]) kL_carryOut (List.cons_ne_nil _ _) rfl rfl rfl ?_
  refine g_aload_n dL_carryOut_0 rfl ?_
  refine g_iconst (v := 0) dL_carryOut_1 (by decide) ?_
  refine g_aload_n dL_carryOut_2 rfl ?_
  refine g_iload_n dL_carryOut_3 rfl ?_
  refine q_V (u' := 4) lL_120 kX5_carryOut (hM) dL_carryOut_4 rfl rfl rfl rfl rfl rfl rfl rfl (fun v h4 hq => ?_) (fun E hx q => ?_)
  obtain ⟨z, rfl⟩ := hv _ _ hq
  dsimp only [Option.toList, List.cons_append, List.nil_append]
  refine g_i2l dL_carryOut_7 ?_
  refine g_last dL_carryOut_8 rfl (show 0 < 1 by decide) rfl ?_
  refine g_goto (tgt := 21) dL_carryOut_9 (by decide) ?_
  refine g_iconst (v := 0) dL_carryOut_21 (by decide) ?_
  refine g_ireturn dL_carryOut_22 rfl rfl (by decide) ?_
  exact Or.inl ⟨rfl, z, _, hq, rfl⟩
  rcases hE _ _ q with rfl | rfl | rfl
  · refine g_catch (E := "java/lang/IndexOutOfBoundsException") (name := "java/lang/IndexOutOfBoundsException") (pre := []) (x := (0, 9, 12, 20)) (suf := [(0, 9, 15, 15), (0, 9, 18, 53)]) rfl (by decide) ctIOB (fun z hz => absurd hz (by simp)) rfl (by decide) lkIOB (fun q9 => ?_)
    refine s_a (i := 3) dL_carryOut_12 rfl rfl rfl rfl ?_
    dsimp only [List.set]
    refine g_iconst (v := 1) dL_carryOut_13 (by decide) ?_
    refine g_ireturn dL_carryOut_14 rfl rfl (by decide) ?_
    exact Or.inr ⟨0, _, rfl, rfl, q⟩
  · refine g_catch (E := "java/lang/IllegalStateException") (name := "java/lang/IllegalStateException") (pre := [(0, 9, 12, 20)]) (x := (0, 9, 15, 15)) (suf := [(0, 9, 18, 53)]) rfl (by decide) ctISE (by intro z hz; simp only [List.mem_cons, List.not_mem_nil, or_false] at hz; rcases hz with rfl <;> first | exact ⟨by decide, _, lkIOB, by decide, by decide⟩) rfl (by decide) lkISE (fun q9 => ?_)
    refine s_a (i := 3) dL_carryOut_15 rfl rfl rfl rfl ?_
    dsimp only [List.set]
    refine g_iconst (v := 2) dL_carryOut_16 (by decide) ?_
    refine g_ireturn dL_carryOut_17 rfl rfl (by decide) ?_
    exact Or.inr ⟨1, _, rfl, rfl, q⟩
  · refine g_catch (E := "java/util/NoSuchElementException") (name := "java/util/NoSuchElementException") (pre := [(0, 9, 12, 20), (0, 9, 15, 15)]) (x := (0, 9, 18, 53)) (suf := []) rfl (by decide) ctNSE (by intro z hz; simp only [List.mem_cons, List.not_mem_nil, or_false] at hz; rcases hz with rfl | rfl <;> first | exact ⟨by decide, _, lkIOB, by decide, by decide⟩ | exact ⟨by decide, _, lkISE, by decide, by decide⟩) rfl (by decide) lkNSE (fun q9 => ?_)
    refine s_a (i := 3) dL_carryOut_18 rfl rfl rfl rfl ?_
    dsimp only [List.set]
    refine g_iconst (v := 3) dL_carryOut_19 (by decide) ?_
    refine g_ireturn dL_carryOut_20 rfl rfl (by decide) ?_
    exact Or.inr ⟨2, _, rfl, rfl, q⟩
set_option maxRecDepth 100000 in
theorem mL_plans {l : Launch} {G : ux_G} {h : ux_H} {a : Int32} {Q : Option Value → ux_H → Prop} {X : String → ux_H → Prop} (hM : ux_M l G yX5_plans iX5_plans 14 3 [.ref 176, .int a] h Q X) (hv : ∀ v h', Q v h' → ∃ z, v = some (.int z)) (hE : ∀ E h', X E h' → E = "java/lang/IndexOutOfBoundsException" ∨ E = "java/lang/IllegalStateException") : ux_M l G yL_plans iL_plans 15 3 [.ref 176, .int a, .ref 202] h (QW Q X ["java/lang/IndexOutOfBoundsException", "java/lang/IllegalStateException"]) (fun _ _ => False) := by
  refine ux_entX (L' := [some (.ref 176), some (.int a), some (.ref 202), none]) kL_plans (List.cons_ne_nil _ _) rfl rfl rfl ?_
  refine g_aload_n dL_plans_0 rfl ?_
  refine g_iconst (v := 0) dL_plans_1 (by decide) ?_
  refine g_aload_n dL_plans_2 rfl ?_
  refine g_iload_n dL_plans_3 rfl ?_
  refine q_V (u' := 3) lL_123 kX5_plans (hM) dL_plans_4 rfl rfl rfl rfl rfl rfl rfl rfl (fun v h4 hq => ?_) (fun E hx q => ?_)
  obtain ⟨z, rfl⟩ := hv _ _ hq
  dsimp only [Option.toList, List.cons_append, List.nil_append]
  refine g_i2l dL_plans_7 ?_
  refine g_last dL_plans_8 rfl (show 0 < 1 by decide) rfl ?_
  refine g_goto (tgt := 18) dL_plans_9 (by decide) ?_
  refine g_iconst (v := 0) dL_plans_18 (by decide) ?_
  refine g_ireturn dL_plans_19 rfl rfl (by decide) ?_
  exact Or.inl ⟨rfl, z, _, hq, rfl⟩
  rcases hE _ _ q with rfl | rfl
  · refine g_catch (E := "java/lang/IndexOutOfBoundsException") (name := "java/lang/IndexOutOfBoundsException") (pre := []) (x := (0, 9, 12, 20)) (suf := [(0, 9, 15, 15)]) rfl (by decide) ctIOB (fun z hz => absurd hz (by simp)) rfl (by decide) lkIOB (fun q9 => ?_)
    refine s_a (i := 3) dL_plans_12 rfl rfl rfl rfl ?_
    dsimp only [List.set]
    refine g_iconst (v := 1) dL_plans_13 (by decide) ?_
    refine g_ireturn dL_plans_14 rfl rfl (by decide) ?_
    exact Or.inr ⟨0, _, rfl, rfl, q⟩
  · refine g_catch (E := "java/lang/IllegalStateException") (name := "java/lang/IllegalStateException") (pre := [(0, 9, 12, 20)]) (x := (0, 9, 15, 15)) (suf := []) rfl (by decide) ctISE (by intro z hz; simp only [List.mem_cons, List.not_mem_nil, or_false] at hz; rcases hz with rfl <;> first | exact ⟨by decide, _, lkIOB, by decide, by decide⟩) rfl (by decide) lkISE (fun q9 => ?_)
    refine s_a (i := 3) dL_plans_15 rfl rfl rfl rfl ?_
    dsimp only [List.set]
    refine g_iconst (v := 2) dL_plans_16 (by decide) ?_
    refine g_ireturn dL_plans_17 rfl rfl (by decide) ?_
    exact Or.inr ⟨1, _, rfl, rfl, q⟩
set_option maxRecDepth 100000 in
theorem mL_averagePoints {l : Launch} {G : ux_G} {h : ux_H} {a : Int32} {Q : Option Value → ux_H → Prop} {X : String → ux_H → Prop} (hM : ux_M l G yX5_averagePoints iX5_averagePoints 5 1 [.ref 176, .int a] h Q X) (hv : ∀ v h', Q v h' → ∃ z, v = some (.double z)) (hE : ∀ E h', X E h' → E = "java/lang/IllegalArgumentException" ∨ E = "java/lang/ArithmeticException") : ux_M l G yL_averagePoints iL_averagePoints 6 1 [.ref 176, .int a, .ref 203] h (QWD Q X ["java/lang/IllegalArgumentException", "java/lang/ArithmeticException"]) (fun _ _ => False) := by
  refine ux_entX (L' := [some (.ref 176), some (.int a), some (.ref 203), none]) kL_averagePoints (List.cons_ne_nil _ _) rfl rfl rfl ?_
  refine g_aload_n dL_averagePoints_0 rfl ?_
  refine g_iconst (v := 0) dL_averagePoints_1 (by decide) ?_
  refine g_aload_n dL_averagePoints_2 rfl ?_
  refine g_iload_n dL_averagePoints_3 rfl ?_
  refine q_V (u' := 1) lL_126 kX5_averagePoints (hM) dL_averagePoints_4 rfl rfl rfl rfl rfl rfl rfl rfl (fun v h4 hq => ?_) (fun E hx q => ?_)
  obtain ⟨z, rfl⟩ := hv _ _ hq
  dsimp only [Option.toList, List.cons_append, List.nil_append]
  refine g_dast dL_averagePoints_7 rfl (show 0 < 1 by decide) rfl ?_
  refine g_goto (tgt := 17) dL_averagePoints_8 (by decide) ?_
  refine g_iconst (v := 0) dL_averagePoints_17 (by decide) ?_
  refine g_ireturn dL_averagePoints_18 rfl rfl (by decide) ?_
  exact Or.inl ⟨rfl, z, _, hq, rfl⟩
  rcases hE _ _ q with rfl | rfl
  · refine g_catch (E := "java/lang/IllegalArgumentException") (name := "java/lang/IllegalArgumentException") (pre := []) (x := (0, 8, 11, 13)) (suf := [(0, 8, 14, 130)]) rfl (by decide) ctIAE (fun z hz => absurd hz (by simp)) rfl (by decide) lkIAE (fun q9 => ?_)
    refine s_a (i := 3) dL_averagePoints_11 rfl rfl rfl rfl ?_
    dsimp only [List.set]
    refine g_iconst (v := 1) dL_averagePoints_12 (by decide) ?_
    refine g_ireturn dL_averagePoints_13 rfl rfl (by decide) ?_
    exact Or.inr ⟨0, _, rfl, rfl, q⟩
  · refine g_catch (E := "java/lang/ArithmeticException") (name := "java/lang/ArithmeticException") (pre := [(0, 8, 11, 13)]) (x := (0, 8, 14, 130)) (suf := []) rfl (by decide) ctARE (by intro z hz; simp only [List.mem_cons, List.not_mem_nil, or_false] at hz; rcases hz with rfl <;> first | exact ⟨by decide, _, lkIAE, by decide, by decide⟩) rfl (by decide) lkARE (fun q9 => ?_)
    refine s_a (i := 3) dL_averagePoints_14 rfl rfl rfl rfl ?_
    dsimp only [List.set]
    refine g_iconst (v := 2) dL_averagePoints_15 (by decide) ?_
    refine g_ireturn dL_averagePoints_16 rfl rfl (by decide) ?_
    exact Or.inr ⟨1, _, rfl, rfl, q⟩
set_option maxRecDepth 100000 in
theorem mL_lost {l : Launch} {G : ux_G} {h : ux_H} {a : Int32} {Q : Option Value → ux_H → Prop} {X : String → ux_H → Prop} (hM : ux_M l G yX5_lost iX5_lost 5 2 [.ref 176, .int a] h Q X) (hv : ∀ v h', Q v h' → ∃ z, v = some (.int z)) (hE : ∀ E h', X E h' → E = "java/lang/IndexOutOfBoundsException") : ux_M l G yL_lost iL_lost 6 2 [.ref 176, .int a, .ref 202] h (QW Q X ["java/lang/IndexOutOfBoundsException"]) (fun _ _ => False) := by
  refine ux_entX (L' := [some (.ref 176), some (.int a), some (.ref 202), none]) kL_lost (List.cons_ne_nil _ _) rfl rfl rfl ?_
  refine g_aload_n dL_lost_0 rfl ?_
  refine g_iconst (v := 0) dL_lost_1 (by decide) ?_
  refine g_aload_n dL_lost_2 rfl ?_
  refine g_iload_n dL_lost_3 rfl ?_
  refine q_V (u' := 2) lL_132 kX5_lost (hM) dL_lost_4 rfl rfl rfl rfl rfl rfl rfl rfl (fun v h4 hq => ?_) (fun E hx q => ?_)
  obtain ⟨z, rfl⟩ := hv _ _ hq
  dsimp only [Option.toList, List.cons_append, List.nil_append]
  refine g_i2l dL_lost_7 ?_
  refine g_last dL_lost_8 rfl (show 0 < 1 by decide) rfl ?_
  refine g_goto (tgt := 15) dL_lost_9 (by decide) ?_
  refine g_iconst (v := 0) dL_lost_15 (by decide) ?_
  refine g_ireturn dL_lost_16 rfl rfl (by decide) ?_
  exact Or.inl ⟨rfl, z, _, hq, rfl⟩
  rcases hE _ _ q with rfl
  · refine g_catch (E := "java/lang/IndexOutOfBoundsException") (name := "java/lang/IndexOutOfBoundsException") (pre := []) (x := (0, 9, 12, 20)) (suf := []) rfl (by decide) ctIOB (fun z hz => absurd hz (by simp)) rfl (by decide) lkIOB (fun q9 => ?_)
    refine s_a (i := 3) dL_lost_12 rfl rfl rfl rfl ?_
    dsimp only [List.set]
    refine g_iconst (v := 1) dL_lost_13 (by decide) ?_
    refine g_ireturn dL_lost_14 rfl rfl (by decide) ?_
    exact Or.inr ⟨0, _, rfl, rfl, q⟩
set_option maxRecDepth 100000 in
theorem mL_append {l : Launch} {G : ux_G} {h : ux_H} {a : Int32} {Q : Option Value → ux_H → Prop} {X : String → ux_H → Prop} (hM : ux_M l G yX5_append iX5_append 3 2 [.ref 176, .int a] h Q X) (hv : ∀ v h', Q v h' → ∃ z, v = some (.int z)) (hE : ∀ E h', X E h' → E = "java/lang/IllegalArgumentException" ∨ E = "java/lang/IllegalStateException") : ux_M l G yL_append iL_append 4 2 [.ref 176, .int a, .ref 202] h (QW Q X ["java/lang/IllegalArgumentException", "java/lang/IllegalStateException"]) (fun _ _ => False) := by
  refine ux_entX (L' := [some (.ref 176), some (.int a), some (.ref 202), none]) kL_append (List.cons_ne_nil _ _) rfl rfl rfl ?_
  refine g_aload_n dL_append_0 rfl ?_
  refine g_iconst (v := 0) dL_append_1 (by decide) ?_
  refine g_aload_n dL_append_2 rfl ?_
  refine g_iload_n dL_append_3 rfl ?_
  refine q_V (u' := 2) lL_135 kX5_append (hM) dL_append_4 rfl rfl rfl rfl rfl rfl rfl rfl (fun v h4 hq => ?_) (fun E hx q => ?_)
  obtain ⟨z, rfl⟩ := hv _ _ hq
  dsimp only [Option.toList, List.cons_append, List.nil_append]
  refine g_i2l dL_append_7 ?_
  refine g_last dL_append_8 rfl (show 0 < 1 by decide) rfl ?_
  refine g_goto (tgt := 18) dL_append_9 (by decide) ?_
  refine g_iconst (v := 0) dL_append_18 (by decide) ?_
  refine g_ireturn dL_append_19 rfl rfl (by decide) ?_
  exact Or.inl ⟨rfl, z, _, hq, rfl⟩
  rcases hE _ _ q with rfl | rfl
  · refine g_catch (E := "java/lang/IllegalArgumentException") (name := "java/lang/IllegalArgumentException") (pre := []) (x := (0, 9, 12, 13)) (suf := [(0, 9, 15, 15)]) rfl (by decide) ctIAE (fun z hz => absurd hz (by simp)) rfl (by decide) lkIAE (fun q9 => ?_)
    refine s_a (i := 3) dL_append_12 rfl rfl rfl rfl ?_
    dsimp only [List.set]
    refine g_iconst (v := 1) dL_append_13 (by decide) ?_
    refine g_ireturn dL_append_14 rfl rfl (by decide) ?_
    exact Or.inr ⟨0, _, rfl, rfl, q⟩
  · refine g_catch (E := "java/lang/IllegalStateException") (name := "java/lang/IllegalStateException") (pre := [(0, 9, 12, 13)]) (x := (0, 9, 15, 15)) (suf := []) rfl (by decide) ctISE (by intro z hz; simp only [List.mem_cons, List.not_mem_nil, or_false] at hz; rcases hz with rfl <;> first | exact ⟨by decide, _, lkIAE, by decide, by decide⟩) rfl (by decide) lkISE (fun q9 => ?_)
    refine s_a (i := 3) dL_append_15 rfl rfl rfl rfl ?_
    dsimp only [List.set]
    refine g_iconst (v := 2) dL_append_16 (by decide) ?_
    refine g_ireturn dL_append_17 rfl rfl (by decide) ?_
    exact Or.inr ⟨1, _, rfl, rfl, q⟩
set_option maxRecDepth 100000 in
theorem mL_read {l : Launch} {G : ux_G} {h : ux_H} {Q : Option Value → ux_H → Prop} {X : String → ux_H → Prop} (hM : ux_M l G yX5_read iX5_read 10 1 [.ref 176] h Q X) (hv : ∀ v h', Q v h' → ∃ z, v = some (.int z)) (hE : ∀ E h', X E h' → E = "java/lang/IllegalArgumentException" ∨ E = "java/lang/IllegalStateException") : ux_M l G yL_read iL_read 11 1 [.ref 176, .ref 202] h (QW Q X ["java/lang/IllegalArgumentException", "java/lang/IllegalStateException"]) (fun _ _ => False) := by
  refine ux_entX (L' := [some (.ref 176), some (.ref 202), none]) kL_read (List.cons_ne_nil _ _) rfl rfl rfl ?_
  refine g_aload_n dL_read_0 rfl ?_
  refine g_iconst (v := 0) dL_read_1 (by decide) ?_
  refine g_aload_n dL_read_2 rfl ?_
  refine q_V (u' := 1) lL_139 kX5_read (hM) dL_read_3 rfl rfl rfl rfl rfl rfl rfl rfl (fun v h3 hq => ?_) (fun E hx q => ?_)
  obtain ⟨z, rfl⟩ := hv _ _ hq
  dsimp only [Option.toList, List.cons_append, List.nil_append]
  refine g_i2l dL_read_6 ?_
  refine g_last dL_read_7 rfl (show 0 < 1 by decide) rfl ?_
  refine g_goto (tgt := 17) dL_read_8 (by decide) ?_
  refine g_iconst (v := 0) dL_read_17 (by decide) ?_
  refine g_ireturn dL_read_18 rfl rfl (by decide) ?_
  exact Or.inl ⟨rfl, z, _, hq, rfl⟩
  rcases hE _ _ q with rfl | rfl
  · refine g_catch (E := "java/lang/IllegalArgumentException") (name := "java/lang/IllegalArgumentException") (pre := []) (x := (0, 8, 11, 13)) (suf := [(0, 8, 14, 15)]) rfl (by decide) ctIAE (fun z hz => absurd hz (by simp)) rfl (by decide) lkIAE (fun q9 => ?_)
    refine s_a (i := 2) dL_read_11 rfl rfl rfl rfl ?_
    dsimp only [List.set]
    refine g_iconst (v := 1) dL_read_12 (by decide) ?_
    refine g_ireturn dL_read_13 rfl rfl (by decide) ?_
    exact Or.inr ⟨0, _, rfl, rfl, q⟩
  · refine g_catch (E := "java/lang/IllegalStateException") (name := "java/lang/IllegalStateException") (pre := [(0, 8, 11, 13)]) (x := (0, 8, 14, 15)) (suf := []) rfl (by decide) ctISE (by intro z hz; simp only [List.mem_cons, List.not_mem_nil, or_false] at hz; rcases hz with rfl <;> first | exact ⟨by decide, _, lkIAE, by decide, by decide⟩) rfl (by decide) lkISE (fun q9 => ?_)
    refine s_a (i := 2) dL_read_14 rfl rfl rfl rfl ?_
    dsimp only [List.set]
    refine g_iconst (v := 2) dL_read_15 (by decide) ?_
    refine g_ireturn dL_read_16 rfl rfl (by decide) ?_
    exact Or.inr ⟨1, _, rfl, rfl, q⟩
set_option maxRecDepth 100000 in
theorem mL_errorPosition {l : Launch} {G : ux_G} {h : ux_H} {Q : Option Value → ux_H → Prop} {X : String → ux_H → Prop} (hM : ux_M l G yX5_errorPosition iX5_errorPosition 3 1 [.ref 176] h Q X) (hv : ∀ v h', Q v h' → ∃ z, v = some (.int z)) (hE : ∀ E h', X E h' → E = "java/util/NoSuchElementException") : ux_M l G yL_errorPosition iL_errorPosition 4 1 [.ref 176, .ref 202] h (QW Q X ["java/util/NoSuchElementException"]) (fun _ _ => False) := by
  refine ux_entX (L' := [some (.ref 176), some (.ref 202), none]) kL_errorPosition (List.cons_ne_nil _ _) rfl rfl rfl ?_
  refine g_aload_n dL_errorPosition_0 rfl ?_
  refine g_iconst (v := 0) dL_errorPosition_1 (by decide) ?_
  refine g_aload_n dL_errorPosition_2 rfl ?_
  refine q_V (u' := 1) lL_142 kX5_errorPosition (hM) dL_errorPosition_3 rfl rfl rfl rfl rfl rfl rfl rfl (fun v h3 hq => ?_) (fun E hx q => ?_)
  obtain ⟨z, rfl⟩ := hv _ _ hq
  dsimp only [Option.toList, List.cons_append, List.nil_append]
  refine g_i2l dL_errorPosition_6 ?_
  refine g_last dL_errorPosition_7 rfl (show 0 < 1 by decide) rfl ?_
  refine g_goto (tgt := 14) dL_errorPosition_8 (by decide) ?_
  refine g_iconst (v := 0) dL_errorPosition_14 (by decide) ?_
  refine g_ireturn dL_errorPosition_15 rfl rfl (by decide) ?_
  exact Or.inl ⟨rfl, z, _, hq, rfl⟩
  rcases hE _ _ q with rfl
  · refine g_catch (E := "java/util/NoSuchElementException") (name := "java/util/NoSuchElementException") (pre := []) (x := (0, 8, 11, 53)) (suf := []) rfl (by decide) ctNSE (fun z hz => absurd hz (by simp)) rfl (by decide) lkNSE (fun q9 => ?_)
    refine s_a (i := 2) dL_errorPosition_11 rfl rfl rfl rfl ?_
    dsimp only [List.set]
    refine g_iconst (v := 1) dL_errorPosition_12 (by decide) ?_
    refine g_ireturn dL_errorPosition_13 rfl rfl (by decide) ?_
    exact Or.inr ⟨0, _, rfl, rfl, q⟩
set_option maxRecDepth 100000 in
theorem mL_describe {l : Launch} {G : ux_G} {h : ux_H} {a b : Int32} {Q : Option Value → ux_H → Prop} {X : String → ux_H → Prop} (hM : ux_M l G yX5_describe iX5_describe 5 2 [.ref 176, .int a, .int b] h Q X) (hv : ∀ v h', Q v h' → ∃ z, v = some (.int z)) (hE : ∀ E h', X E h' → E = "java/lang/IndexOutOfBoundsException" ∨ E = "java/util/NoSuchElementException") : ux_M l G yL_describe iL_describe 6 2 [.ref 176, .int a, .int b, .ref 202] h (QW Q X ["java/lang/IndexOutOfBoundsException", "java/util/NoSuchElementException"]) (fun _ _ => False) := by
  refine ux_entX (L' := [some (.ref 176), some (.int a), some (.int b), some (.ref 202), none]) kL_describe (List.cons_ne_nil _ _) rfl rfl rfl ?_
  refine g_aload_n dL_describe_0 rfl ?_
  refine g_iconst (v := 0) dL_describe_1 (by decide) ?_
  refine g_aload_n dL_describe_2 rfl ?_
  refine g_iload_n dL_describe_3 rfl ?_
  refine g_iload_n dL_describe_4 rfl ?_
  refine q_V (u' := 2) lL_145 kX5_describe (hM) dL_describe_5 rfl rfl rfl rfl rfl rfl rfl rfl (fun v h5 hq => ?_) (fun E hx q => ?_)
  obtain ⟨z, rfl⟩ := hv _ _ hq
  dsimp only [Option.toList, List.cons_append, List.nil_append]
  refine g_i2l dL_describe_8 ?_
  refine g_last dL_describe_9 rfl (show 0 < 1 by decide) rfl ?_
  refine g_goto (tgt := 21) dL_describe_10 (by decide) ?_
  refine g_iconst (v := 0) dL_describe_21 (by decide) ?_
  refine g_ireturn dL_describe_22 rfl rfl (by decide) ?_
  exact Or.inl ⟨rfl, z, _, hq, rfl⟩
  rcases hE _ _ q with rfl | rfl
  · refine g_catch (E := "java/lang/IndexOutOfBoundsException") (name := "java/lang/IndexOutOfBoundsException") (pre := []) (x := (0, 10, 13, 20)) (suf := [(0, 10, 17, 53)]) rfl (by decide) ctIOB (fun z hz => absurd hz (by simp)) rfl (by decide) lkIOB (fun q9 => ?_)
    refine s_aw dL_describe_13 rfl rfl rfl ?_
    dsimp only [List.set]
    refine g_iconst (v := 1) dL_describe_15 (by decide) ?_
    refine g_ireturn dL_describe_16 rfl rfl (by decide) ?_
    exact Or.inr ⟨0, _, rfl, rfl, q⟩
  · refine g_catch (E := "java/util/NoSuchElementException") (name := "java/util/NoSuchElementException") (pre := [(0, 10, 13, 20)]) (x := (0, 10, 17, 53)) (suf := []) rfl (by decide) ctNSE (by intro z hz; simp only [List.mem_cons, List.not_mem_nil, or_false] at hz; rcases hz with rfl <;> first | exact ⟨by decide, _, lkIOB, by decide, by decide⟩) rfl (by decide) lkNSE (fun q9 => ?_)
    refine s_aw dL_describe_17 rfl rfl rfl ?_
    dsimp only [List.set]
    refine g_iconst (v := 2) dL_describe_19 (by decide) ?_
    refine g_ireturn dL_describe_20 rfl rfl (by decide) ?_
    exact Or.inr ⟨1, _, rfl, rfl, q⟩
set_option maxRecDepth 100000 in
theorem mL_undo {l : Launch} {G : ux_G} {h : ux_H} {Q : Option Value → ux_H → Prop} {X : String → ux_H → Prop} (hM : ux_M l G yX5_undo iX5_undo 5 1 [.ref 176] h Q X) (hv : ∀ v h', Q v h' → ∃ z, v = some (.int z)) (hE : ∀ E h', X E h' → E = "java/util/NoSuchElementException") : ux_M l G yL_undo iL_undo 6 1 [.ref 176, .ref 202] h (QW Q X ["java/util/NoSuchElementException"]) (fun _ _ => False) := by
  refine ux_entX (L' := [some (.ref 176), some (.ref 202), none]) kL_undo (List.cons_ne_nil _ _) rfl rfl rfl ?_
  refine g_aload_n dL_undo_0 rfl ?_
  refine g_iconst (v := 0) dL_undo_1 (by decide) ?_
  refine g_aload_n dL_undo_2 rfl ?_
  refine q_V (u' := 1) lL_148 kX5_undo (hM) dL_undo_3 rfl rfl rfl rfl rfl rfl rfl rfl (fun v h3 hq => ?_) (fun E hx q => ?_)
  obtain ⟨z, rfl⟩ := hv _ _ hq
  dsimp only [Option.toList, List.cons_append, List.nil_append]
  refine g_i2l dL_undo_6 ?_
  refine g_last dL_undo_7 rfl (show 0 < 1 by decide) rfl ?_
  refine g_goto (tgt := 14) dL_undo_8 (by decide) ?_
  refine g_iconst (v := 0) dL_undo_14 (by decide) ?_
  refine g_ireturn dL_undo_15 rfl rfl (by decide) ?_
  exact Or.inl ⟨rfl, z, _, hq, rfl⟩
  rcases hE _ _ q with rfl
  · refine g_catch (E := "java/util/NoSuchElementException") (name := "java/util/NoSuchElementException") (pre := []) (x := (0, 8, 11, 53)) (suf := []) rfl (by decide) ctNSE (fun z hz => absurd hz (by simp)) rfl (by decide) lkNSE (fun q9 => ?_)
    refine s_a (i := 2) dL_undo_11 rfl rfl rfl rfl ?_
    dsimp only [List.set]
    refine g_iconst (v := 1) dL_undo_12 (by decide) ?_
    refine g_ireturn dL_undo_13 rfl rfl (by decide) ?_
    exact Or.inr ⟨0, _, rfl, rfl, q⟩
set_option maxRecDepth 100000 in
theorem mL_restore {l : Launch} {G : ux_G} {h : ux_H} {Q : Option Value → ux_H → Prop} {X : String → ux_H → Prop} (hM : ux_M l G yX5_restore iX5_restore 3 1 [.ref 176] h Q X) (hv : ∀ v h', Q v h' → ∃ z, v = some (.int z)) (hE : ∀ E h', X E h' → E = "java/lang/IllegalStateException") : ux_M l G yL_restore iL_restore 4 1 [.ref 176, .ref 202] h (QW Q X ["java/lang/IllegalStateException"]) (fun _ _ => False) := by
  refine ux_entX (L' := [some (.ref 176), some (.ref 202), none]) kL_restore (List.cons_ne_nil _ _) rfl rfl rfl ?_
  refine g_aload_n dL_restore_0 rfl ?_
  refine g_iconst (v := 0) dL_restore_1 (by decide) ?_
  refine g_aload_n dL_restore_2 rfl ?_
  refine q_V (u' := 1) lL_151 kX5_restore (hM) dL_restore_3 rfl rfl rfl rfl rfl rfl rfl rfl (fun v h3 hq => ?_) (fun E hx q => ?_)
  obtain ⟨z, rfl⟩ := hv _ _ hq
  dsimp only [Option.toList, List.cons_append, List.nil_append]
  refine g_i2l dL_restore_6 ?_
  refine g_last dL_restore_7 rfl (show 0 < 1 by decide) rfl ?_
  refine g_goto (tgt := 14) dL_restore_8 (by decide) ?_
  refine g_iconst (v := 0) dL_restore_14 (by decide) ?_
  refine g_ireturn dL_restore_15 rfl rfl (by decide) ?_
  exact Or.inl ⟨rfl, z, _, hq, rfl⟩
  rcases hE _ _ q with rfl
  · refine g_catch (E := "java/lang/IllegalStateException") (name := "java/lang/IllegalStateException") (pre := []) (x := (0, 8, 11, 15)) (suf := []) rfl (by decide) ctISE (fun z hz => absurd hz (by simp)) rfl (by decide) lkISE (fun q9 => ?_)
    refine s_a (i := 2) dL_restore_11 rfl rfl rfl rfl ?_
    dsimp only [List.set]
    refine g_iconst (v := 1) dL_restore_12 (by decide) ?_
    refine g_ireturn dL_restore_13 rfl rfl (by decide) ?_
    exact Or.inr ⟨0, _, rfl, rfl, q⟩
