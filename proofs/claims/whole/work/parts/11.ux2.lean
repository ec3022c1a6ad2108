/-! STANDING IN THE UNIFORM WORLD: the words, the world at a method's start, what a method owes. -/
def ux_T : List Cond := lw_tbl.filter goodWord
def ux_nst : Cond → Bool := fun w => match w with
  | .methodLinkNest .. => true
  | .fieldLinkNest .. => true
  | .castable .. => true
  | .declares _ => true
  | _ => false
def ux_N : List Cond := lw_tbl.filter ux_nst
theorem ux_mem {n : Nat} {w : Cond} (h : lw_tbl[n]? = some w) (hg : goodWord w = true) : w ∈ ux_T := List.mem_filter.mpr ⟨List.mem_of_getElem? h, hg⟩
theorem ux_memN {n : Nat} {w : Cond} (h : lw_tbl[n]? = some w) (hg : ux_nst w = true) : w ∈ ux_N := List.mem_filter.mpr ⟨List.mem_of_getElem? h, hg⟩
theorem ux_good {w : Cond} (h : w ∈ ux_T) : goodWord w = true := (List.mem_filter.mp h).2
theorem ux_goodIn {w0 : Cond} (h : w0 ∈ ux_T) : GoodIn ux_T (w0 :: ux_T) := by
  intro w hw
  rcases List.mem_cons.mp hw with e | e
  · rw [e]; exact ⟨h, good_of_word (ux_good h)⟩
  · exact ⟨e, good_of_word (ux_good e)⟩
def ux_A (G : ux_G) : Nat → Prop := fun q => G.1 ≤ q
def ux_ok (G : ux_G) : Prop := (∀ i j : Nat, i < 204 → j < 204 → G.2.1 i = G.2.1 j → i = j) ∧ ∀ k : Nat, k < 204 → G.1 ≤ G.2.1 k
def ux_ty (G : ux_G) : List (ClassId × FieldType) := [(G.2.2.2 0, .int), (G.2.2.2 1, .char), (G.2.2.2 2, .long), (G.2.2.2 3, .double), (G.2.2.2 4, .object RX4)]
/-- the world of the heap -/
def ux_hw (G : ux_G) (h : ux_H) (H : Heap) : Prop := va_P G.2.2.1 ux_cl (ux_ws G h) H
def ux_xs : List String := ["java/lang/IllegalArgumentException", "java/lang/IllegalStateException", "java/lang/IndexOutOfBoundsException", "java/lang/UnsupportedOperationException", "java/util/NoSuchElementException", "java/lang/ArithmeticException"]
/-- the texts of the exceptions: class, entry, text -/
def ux_tx : List (String × Nat × String) := [(RX5, 131, "a number is out of range"), (RX5, 79, "there are 8 teachers"), (RX5, 415, "there is no such number"), (RX5, 112, "a lesson of the class is split, or its room is too small"), (RX5, 120, "a lesson in the room needs more"), (RX5, 136, "the lesson collides with another, or its room is too small"), (RX5, 139, "there are 40 lessons"), (RX5, 153, "another lesson has the room, or it is too small"), (RX5, 168, "there is no such number to ask for"), (RX5, 222, "the class has no lesson in the slot"), (RX5, 228, "the teacher is already so"), (RX5, 248, "there is no such open lesson"), (RX5, 418, "the lesson is in another state"), (RX5, 262, "no teacher can cover the lesson"), (RX5, 264, "the teacher cannot cover the lesson"), (RX5, 278, "the hosts are the same, or one is in another slot"), (RX5, 289, "a host has no acting teacher, or its room is too small"), (RX5, 306, "no reason was kept"), (RX5, 420, "there are no teachers"), (RX5, 424, "the day has more than 4 open lessons"), (RX5, 422, "there is no plan"), (RX5, 341, "a teacher of the set does not exist"), (RX5, 350, "the set is empty"), (RX5, 365, "the input is full"), (RX5, 375, "the input is not a text"), (RX5, 384, "an entry cannot be done"), (RX5, 386, "no error position was kept"), (RX5, 393, "there is no such character"), (RX5, 406, "no change is remembered"), (RX5, 411, "nothing was saved")]
/-- the one text that a call reads -/
def ux_cs (G : ux_G) (U : State) (H : Heap) : Prop := ∃ aK aV : Nat, vk_R RX6 253 "cspr" aK U ∧ vk_S 1 [4] [[99, 115, 112, 114]] (fun _ => aK) (fun _ => aV) (ux_A G) U H ∧ va_Z "java/lang/String" "COMPACT_STRINGS" "Z" (.int 1) (ux_A G) U H ∧ va_Zq "jdk/internal/util/Preconditions" "SIOOBE_FORMATTER" "Ljava/util/function/BiFunction;" (ux_A G) U H
/-- what else holds at a method's start -/
def ux_wf (l : Launch) (G : ux_G) (U : State) : Prop :=
  ux_ok G ∧ l.stackTraces = false ∧ (∀ w ∈ ux_N, va_Nw w U) ∧ vx_Zq Bundle.tN "UNASSIGNED_STACK" Bundle.steD (ux_A G) U U.heap ∧ vx_Zq Bundle.tN "SUPPRESSED_SENTINEL" Bundle.listD (ux_A G) U U.heap ∧
  (∀ q ∈ ux_tx, ∃ a, vk_R q.1 q.2.1 q.2.2 a U) ∧ (∀ a ∈ ux_xs, ∀ b ∈ ux_xs, a ≠ b → va_Nc a b U) ∧ va_K G.2.2.1 ux_cl (ux_ty G) U ∧ G.1 ≤ U.heap.size ∧ ux_cs G U U.heap
theorem ux_cs.kept {G : ux_G} {U : State} {H H1 : Heap} (h : ux_cs G U H) (hq : ∀ a : Nat, a < H.size → ¬ ux_A G a → H1[a]? = H[a]?) : ux_cs G U H1 := by
  obtain ⟨aK, aV, h1, h2, h3, h4⟩ := h
  exact ⟨aK, aV, h1, h2.kept hq, h3.kept hq, h4.kept hq⟩
theorem ux_cs.warm {G : ux_G} {s U : State} {H : Heap} (hW : s.WarmedH U.vm) (h : ux_cs G s H) : ux_cs G U H := by
  obtain ⟨aK, aV, h1, h2, h3, h4⟩ := h
  exact ⟨aK, aV, h1.warm hW, vk_S.moved hW.alike h2, va_Z.moved hW.alike h3, va_Zq.moved hW.alike h4⟩
/-- it holds wherever the same method's walk has come -/
theorem ux_wf.on {l : Launch} {G : ux_G} {s U : State} {H : Heap} {locs : List Loc} (h : ux_wf l G s) (hS : va_S (ux_A G) s.heap H locs) (hU : U.heap = H) (hW : s.WarmedH U.vm) : ux_wf l G U := by
  obtain ⟨h1, h2, h3, h4, h5, h6, h7, h8, h9, h10⟩ := h
  refine ⟨h1, h2, ?_, by rw [hU]; exact vx_Zq.moved hW.alike (h4.kept hS.2.1), by rw [hU]; exact vx_Zq.moved hW.alike (h5.kept hS.2.1), fun q hq => (h6 q hq).imp fun a ha => ha.warm hW, fun a ha b hb n => (h7 a ha b hb n).moved hW.alike, h8.moved hW.alike, by rw [hU]; exact Nat.le_trans h9 hS.1, by rw [hU]; exact (h10.kept hS.2.1).warm hW⟩
  intro w hw
  have hz := h3 w hw
  have hn := (List.mem_filter.mp hw).2
  cases w <;> first | exact hz.warmM hW | exact hz.warmF hW | exact hz.warmC hW | exact hz.warmD hW | (exfalso; revert hn; unfold ux_nst; exact fun z => Bool.noConfusion z)
/-- it doesn't look at the frames -/
theorem ux_wf.blind {l : Launch} {G : ux_G} {U V : State} (hv : V.vm = U.vm) (hh : V.heap = U.heap) (h : ux_wf l G U) : ux_wf l G V := by
  obtain ⟨h1, h2, h3, h4, h5, h6, h7, h8, h9, h10⟩ := h
  have ha : U.vm.Alike V.vm := by rw [hv]; exact Vm.Alike.refl _
  refine ⟨h1, h2, ?_, by rw [hh]; exact vx_Zq.moved ha h4, by rw [hh]; exact vx_Zq.moved ha h5, fun q hq => (h6 q hq).imp fun a hR => hR.same hv, fun a hx b hb n => (h7 a hx b hb n).moved ha, h8.moved ha, by rw [hh]; exact h9, ?_⟩
  · intro w hw
    have hz := h3 w hw
    have hn := (List.mem_filter.mp hw).2
    have ho : w.onTables = true := by
      cases w <;> first | rfl | (exfalso; revert hn; unfold ux_nst; exact fun z => Bool.noConfusion z)
    exact hz.same ho hv.symm
  · rw [hh]
    obtain ⟨aK, aV, g1, g2, g3, g4⟩ := h10
    exact ⟨aK, aV, g1.same hv, vk_S.moved ha g2, va_Z.moved ha g3, va_Zq.moved ha g4⟩
/-- bytes, locals, the class's name, the result's type, the handlers -/
abbrev ux_I : Type := ByteArray × Nat × String × Option FieldType × List (Nat × Nat × Nat × Nat)
def ux_C (l : Launch) (G : ux_G) (mi : ux_I) (p : Program) (s : State) (m : MethodId) (args : Array Value) (meth : Method) (c : Code) : Prop :=
  p.tables.exec = Jvm.exec ∧ c.code = mi.1 ∧ c.maxLocals = mi.2.1 ∧ s.vm.findClass mi.2.2.1 = some m.cls ∧ (∀ w ∈ ux_T, w.before args s = true) ∧ meth.locks = false ∧ meth.sig.returnType = mi.2.2.2.1 ∧ c.exceptionTable.toList = tableOf mi.2.2.2.2 ∧ ux_wf l G s
def ux_lv (G : ux_G) : Nat → List (Option Value) → List (Nat × Value)
  | _, [] => []
  | i, none :: r => ux_lv G (i + 1) r
  | i, some v :: r => (i, ux_cv G v) :: ux_lv G (i + 1) r
theorem ux_lv_mem {G : ux_G} : ∀ (L : List (Option Value)) (n i : Nat) (w : Value), (i, w) ∈ ux_lv G n L ↔ ∃ (j : Nat) (v : Value), i = n + j ∧ L[j]? = some (some v) ∧ w = ux_cv G v := by
  intro L
  induction L with
  | nil => intro n i w; simp [ux_lv]
  | cons a r ih =>
    intro n i w
    cases a with
    | none =>
      show (i, w) ∈ ux_lv G (n + 1) r ↔ _
      rw [ih]
      constructor
      · rintro ⟨j, v, h1, h2, h3⟩
        exact ⟨j + 1, v, by omega, by simpa using h2, h3⟩
      · rintro ⟨j, v, h1, h2, h3⟩
        cases j with
        | zero => simp at h2
        | succ j => exact ⟨j, v, by omega, by simpa using h2, h3⟩
    | some a =>
      show (i, w) ∈ (n, ux_cv G a) :: ux_lv G (n + 1) r ↔ _
      rw [List.mem_cons, ih]
      constructor
      · rintro (h | ⟨j, v, h1, h2, h3⟩)
        · obtain ⟨rfl, rfl⟩ := Prod.mk.injEq .. ▸ h
          exact ⟨0, a, rfl, rfl, rfl⟩
        · exact ⟨j + 1, v, by omega, by simpa using h2, h3⟩
      · rintro ⟨j, v, h1, h2, h3⟩
        cases j with
        | zero =>
          left
          have e : a = v := by simpa using h2
          subst e
          rw [h1, h3]
          rfl
        | succ j => exact Or.inr ⟨j, v, by omega, by simpa using h2, h3⟩
theorem ux_at {G : ux_G} {ls : Array Slot} {nL : Nat} {L : List (Option Value)} (h : lv_has ls nL (ux_lv G 0 L)) {i : Nat} {v : Value} (hL : L[i]? = some (some v)) : ls[i]? = some (.val (ux_cv G v)) :=
  h.2.2 (i, ux_cv G v) ((ux_lv_mem L 0 i _).mpr ⟨i, v, by omega, hL, rfl⟩)
/-- fewer pairs -/
theorem ux_has {ls : Array Slot} {nL : Nat} {l l' : List (Nat × Value)} (h : lv_has ls nL l) (hs : ∀ q ∈ l', q ∈ l) : lv_has ls nL l' := ⟨h.1, h.2.1, fun q hq => h.2.2 q (hs q hq)⟩
/-- a local of one word is set -/
theorem ux_set1 {G : ux_G} {ls : Array Slot} {nL i : Nat} {L : List (Option Value)} {v : Value} (hc : ∀ (j : Nat) (w : Value), j + 1 = i → L[j]? = some (some w) → w.category = 1)
    (h : lv_has ls nL ((i, ux_cv G v) :: (ux_lv G 0 L).filter (fun q => !(q.1 == i) && !(q.1 + 1 == i && q.2.category == 2)))) : lv_has ls nL (ux_lv G 0 (L.set i (some v))) := by
  refine ux_has h ?_
  rintro ⟨a, w⟩ hq
  obtain ⟨j, x, h1, h2, h3⟩ := (ux_lv_mem _ _ _ _).mp hq
  have hj : a = j := by omega
  subst hj
  rw [List.getElem?_set] at h2
  by_cases e : i = a
  · subst e
    rw [if_pos rfl] at h2
    split at h2
    · have e2 : v = x := by simpa using h2
      subst e2
      rw [h3]
      exact List.mem_cons_self
    · cases h2
  · rw [if_neg e] at h2
    refine List.mem_cons_of_mem _ (List.mem_filter.mpr ⟨(ux_lv_mem _ _ _ _).mpr ⟨a, x, by omega, h2, h3⟩, ?_⟩)
    have e1 : (a == i) = false := by simp; omega
    simp only [e1, Bool.not_false, Bool.true_and, Bool.not_eq_true', Bool.and_eq_false_iff]
    by_cases e2 : a + 1 = i
    · right
      have h9 := hc a x e2 h2
      rw [h3, ux_cv_cat, h9]
      rfl
    · left
      simpa using e2
abbrev ux_Zt : Type := Array Value → State → List Frame → State → Prop
/-- from here the method comes to its end Z -/
def ux_W (l : Launch) (G : ux_G) (mi : ux_I) (R : Room) (Z : ux_Zt) (pc : Nat) (L : List (Option Value)) (st : List Value) (h : ux_H) (u : Nat) : Prop :=
  ∀ p e s m args below meth c H locs ls, ux_C l G mi p s m args meth c → ux_hw G h H → va_S (ux_A G) s.heap H locs → lv_has ls mi.2.1 (ux_lv G 0 L) → W p l e R s m args below meth c H locs u (6 * u) (Z args s below) (F0 m pc ls (st.map (ux_cv G)))
/-- from here, with an exception of the class E thrown -/
def ux_V (l : Launch) (G : ux_G) (mi : ux_I) (R : Room) (Z : ux_Zt) (pc : Nat) (L : List (Option Value)) (h : ux_H) (u : Nat) (E : String) : Prop :=
  ∀ p e s m args below meth c H locs ls ce q rest, ux_C l G mi p s m args meth c → ux_hw G h H → va_S (ux_A G) s.heap H locs → lv_has ls mi.2.1 (ux_lv G 0 L) → H[q]? = some ce → ce.vm = .none → s.vm.findClass E = some ce.cls → vx_W p l e R s m args below meth c H locs u (6 * u) (Z args s below) (F0 m pc ls rest) q
def ux_rm (d k : Nat) : Room := { frames := 8 + d, cells := k, slots := 6 * k, locals := 200 + 40 * d }
def ux_Qc (G : ux_G) (Q : Option Value → ux_H → Prop) : Array Value → State → Outcome → State → Prop := fun _ st o t => (∃ v h', o = .returned (v.map (ux_cv G)) ∧ Q v h' ∧ ux_hw G h' t.heap) ∧ va_F (ux_A G) st t
def ux_Xc (G : ux_G) (X : String → ux_H → Prop) : String → State → State → Prop := fun E st t => (∃ h', X E h' ∧ ux_hw G h' t.heap) ∧ va_F (ux_A G) st t
/-- the end of a method: a result, or an exception -/
def ux_Z (G : ux_G) (k : Nat) (Q : Option Value → ux_H → Prop) (X : String → ux_H → Prop) : ux_Zt := fun args s below => vx_MQ below (ux_Qc G Q) (ux_Xc G X) args s k (6 * k) (ux_A G)
def ux_cw (y : MethodName) (mi : ux_I) : Cond := match mi.2.2.2.2 with
  | [] => .code y mi.1 mi.2.1 mi.2.2.2.1
  | hh => .codeWith y mi.1 mi.2.1 mi.2.2.2.1 hh
def ux_Pc (l : Launch) (G : ux_G) (av : List Value) (h : ux_H) : Array Value → State → Prop := va_Pc (av.map (ux_cv G)) (fun U => ux_wf l G U ∧ ux_hw G h U.heap)
/-- A METHOD'S CONTRACT: called with av in the world h, it ends with Q or throws with X -/
def ux_M (l : Launch) (G : ux_G) (y : MethodName) (mi : ux_I) (d k : Nat) (av : List Value) (h : ux_H) (Q : Option Value → ux_H → Prop) (X : String → ux_H → Prop) : Prop :=
  vx_Met l y (ux_cw y mi :: ux_T) (ux_rm d k) (ux_Pc l G av h) (ux_Qc G Q) (ux_Xc G X) k (6 * k) (ux_A G)
theorem ux_Pc_blind {l : Launch} {G : ux_G} {av : List Value} {h : ux_H} : FrameBlind (ux_Pc l G av h) := by
  rintro a U g mk ⟨e, hw, hh⟩
  exact ⟨e, ux_wf.blind (U := U) (V := U.calling g mk a) rfl rfl hw, hh⟩
