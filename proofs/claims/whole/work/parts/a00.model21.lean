/-! THE REFERENCE: the input is read: signs, numbers, entries. -/
def rIm (L : List Nat) (h : ux_H) : Prop := xgi h 192 8 = nI L.length ∧ L.length ≤ 70 ∧ (∀ v, v ∈ L → 32 ≤ v ∧ v < 127) ∧ ∀ (j v : Nat), L[j]? = some v → xgi h 197 j = nI v
theorem rIm_ch {L : List Nat} {h : ux_H} (hL : rIm L h) {p : Nat} (hp : p < L.length) : xgi h 197 p = nI (s_ch L p) ∧ 32 ≤ s_ch L p ∧ s_ch L p < 127 := by
  obtain ⟨v, hv⟩ : ∃ v, L[p]? = some v := ⟨_, List.getElem?_eq_getElem hp⟩
  have e : s_ch L p = v := by unfold s_ch; rw [hv]; rfl
  rw [e]
  exact ⟨hL.2.2.2 p v hv, hL.2.2.1 v (List.mem_of_getElem? hv)⟩
/-- only the place of reading has changed -/
def x_fa (h h' : ux_H) : Prop := ∀ k j, ¬ (k = 192 ∧ j = 11) → h' k j = h k j
theorem x_fa_rf (h : ux_H) : x_fa h h := fun _ _ _ => rfl
theorem x_fa_tr {h h1 h2 : ux_H} (a : x_fa h h1) (b : x_fa h1 h2) : x_fa h h2 := fun k j q => (b k j q).trans (a k j q)
theorem x_fa_si (h : ux_H) (x : Int32) : x_fa h (xsi h 192 11 x) := fun k j q => by unfold xsi xsv; rw [if_neg q]
theorem x_fa_g {h h' : ux_H} (hF : x_fa h h') {k j : Nat} (q : ¬ (k = 192 ∧ j = 11)) : xgi h' k j = xgi h k j := by unfold xgi; rw [hF k j q]
theorem rIm_fa {L : List Nat} {h h' : ux_H} (hL : rIm L h) (hF : x_fa h h') : rIm L h' :=
  ⟨(x_fa_g hF (by decide)).trans hL.1, hL.2.1, hL.2.2.1, fun j v q => (x_fa_g hF (by omega)).trans (hL.2.2.2 j v q)⟩
theorem is_mk {L : List Nat} {p lo hi : Nat} (a : p < L.length) (b : lo ≤ s_ch L p ∧ s_ch L p ≤ hi) : s_is L p lo hi = true := decide_eq_true ⟨a, b⟩
theorem is_no {L : List Nat} {p lo hi : Nat} (a : ¬ (p < L.length ∧ lo ≤ s_ch L p ∧ s_ch L p ≤ hi)) : ¬ s_is L p lo hi = true := fun y => a (of_decide_eq_true y)
theorem is_of {L : List Nat} {p lo hi : Nat} (h : s_is L p lo hi = true) : p < L.length ∧ lo ≤ s_ch L p ∧ s_ch L p ≤ hi := of_decide_eq_true h
theorem tD_t {L : List Nat} {p lo hi : Nat} (h : s_is L p (48 + lo) (48 + hi) = true) : s_tD L p lo hi = ((s_ch L p : Int) - 48, p + 1) := if_pos h
theorem tD_f {L : List Nat} {p lo hi : Nat} (h : ¬ s_is L p (48 + lo) (48 + hi) = true) : s_tD L p lo hi = (-1, p) := if_neg h
theorem tN_0 {L : List Nat} {p : Nat} (h : s_is L p 48 48 = true) : s_tN L p = (0, p + 1) := by
  have a := is_of h
  have e : s_tD L p 0 9 = (0, p + 1) := by
    rw [tD_t (is_mk a.1 (by omega))]; congr 1; omega
  unfold s_tN
  rw [e]; rfl
theorem tN_n {L : List Nat} {p : Nat} (h : ¬ s_is L p 48 48 = true) (h2 : ¬ s_is L p 49 57 = true) : s_tN L p = (-1, p) := by
  have e : s_tD L p 0 9 = (-1, p) := tD_f (is_no fun y => by
    rcases Nat.lt_or_eq_of_le y.2.1 with q | q
    · exact h2 (is_mk y.1 (by omega))
    · exact h (is_mk y.1 (by omega)))
  unfold s_tN
  rw [e]; rfl
theorem tN_1 {L : List Nat} {p : Nat} (h : s_is L p 49 57 = true) (h2 : ¬ s_is L (p + 1) 48 57 = true) : s_tN L p = ((s_ch L p : Int) - 48, p + 1) := by
  have a := is_of h
  have e : s_tD L p 0 9 = ((s_ch L p : Int) - 48, p + 1) := tD_t (is_mk a.1 (by omega))
  have e2 : s_tD L (p + 1) 0 9 = (-1, p + 1) := tD_f h2
  unfold s_tN
  rw [e]
  dsimp only
  rw [if_neg (by omega), e2]
  rfl
theorem tN_2 {L : List Nat} {p : Nat} (h : s_is L p 49 57 = true) (h2 : s_is L (p + 1) 48 57 = true) : s_tN L p = (10 * ((s_ch L p : Int) - 48) + ((s_ch L (p + 1) : Int) - 48), p + 2) := by
  have a := is_of h
  have b := is_of h2
  have e : s_tD L p 0 9 = ((s_ch L p : Int) - 48, p + 1) := tD_t (is_mk a.1 (by omega))
  have e2 : s_tD L (p + 1) 0 9 = ((s_ch L (p + 1) : Int) - 48, p + 2) := tD_t h2
  unfold s_tN
  rw [e]
  dsimp only
  rw [if_neg (by omega), e2]
  dsimp only
  rw [if_neg (by omega)]
theorem nI_inq {lo v hi : Nat} (h1 : lo ≤ 1000) (h2 : v ≤ 1000) (h3 : hi ≤ 1000) : (nI lo ≤ nI v ∧ nI v ≤ nI hi) ↔ (lo ≤ v ∧ v ≤ hi) := by
  rw [nI_leI (by omega) (by omega), nI_leI (by omega) (by omega)]
set_option maxRecDepth 100000 in
theorem mX6_takes {l : Launch} {G : ux_G} {h : ux_H} {lo hi : Nat} {L : List Nat} {p : Nat} (hL : rIm L h) (hp : xgi h 192 11 = nI p) (hpl : p ≤ L.length) (h1 : lo ≤ 1000) (h2 : hi ≤ 1000) : ux_M l G yX6_takes iX6_takes 2 0 [.ref 192, .int (nI lo), .int (nI hi)] h (fun v h' => v = some (.int (if s_is L p lo hi = true then 1 else 0)) ∧ xgi h' 192 11 = nI (if s_is L p lo hi = true then p + 1 else p) ∧ x_fa h h') (fun _ _ => False) := by
  refine ux_ent (L' := [some (.ref 192), some (.int (nI lo)), some (.int (nI hi))]) kX6_takes rfl rfl rfl rfl ?_
  have h70 := hL.2.1
  refine g_aload_n dX6_takes_0 rfl ?_
  refine g_geti fX6_231 dX6_takes_1 rfl rfl ?_
  refine g_top hp ?_
  refine g_aload_n dX6_takes_4 rfl ?_
  refine g_geti fX6_228 dX6_takes_5 rfl rfl ?_
  refine g_top hL.1 ?_
  refine g_icmp_ge (tgt := 28) dX6_takes_8 (by decide) (fun c8 => ?_) (fun c8 => ?_)
  · have q8 : ¬ p < L.length := fun y => absurd (xlt_i (a := L.length) (b := p) c8 (by omega) (by omega)) (by omega)
    have qi : ¬ s_is L p lo hi = true := is_no fun y => q8 y.1
    refine g_iconst (v := 0) dX6_takes_28 (by decide) ?_
    refine g_ireturn dX6_takes_29 rfl rfl (by decide) ?_
    first | exact ⟨by rw [if_neg qi], by rw [if_neg qi]; exact hp, x_fa_rf _⟩ | exact ⟨by rw [if_pos qi], by rw [if_pos qi]; exact xgi_si _ _ _ _, x_fa_si _ _⟩
  · have q8 : p < L.length := xnl_i (a := L.length) (b := p) c8 (by omega) (by omega)
    obtain ⟨r1, r2, r3⟩ := rIm_ch hL q8
    refine g_aload_n dX6_takes_11 rfl ?_
    refine g_getr (q := 197) fX6_22 dX6_takes_12 rfl rfl rfl ?_
    refine g_aload_n dX6_takes_15 rfl ?_
    refine g_geti fX6_231 dX6_takes_16 rfl rfl ?_
    refine g_top hp ?_
    refine g_iald dX6_takes_19 rfl (show p < 70 by omega) rfl ?_
    refine g_top r1 ?_
    refine g_iload_n dX6_takes_20 rfl ?_
    refine g_iload_n dX6_takes_21 rfl ?_
    refine f1_S (u' := 0) lX6_58 kX6_in (mX6_in) dX6_takes_22 rfl rfl rfl rfl rfl rfl ?_
    refine g_if_ne (tgt := 30) dX6_takes_25 (by decide) (fun c25 => ?_) (fun c25 => ?_)
    · have qi : s_is L p lo hi = true := is_mk q8 ((nI_inq (by omega) (by omega) (by omega)).mp (xb_n0 c25))
      refine g_aload_n dX6_takes_30 rfl ?_
      refine g_dup dX6_takes_31 rfl ?_
      refine g_geti fX6_231 dX6_takes_32 rfl rfl ?_
      refine g_top hp ?_
      refine g_iconst (v := 1) dX6_takes_35 (by decide) ?_
      refine g_iadd dX6_takes_36 ?_
      refine g_top (nI_1 _) ?_
      refine g_puti pX6_231 dX6_takes_37 rfl rfl ?_
      refine g_iconst (v := 1) dX6_takes_40 (by decide) ?_
      refine g_ireturn dX6_takes_41 rfl rfl (by decide) ?_
      first | exact ⟨by rw [if_neg qi], by rw [if_neg qi]; exact hp, x_fa_rf _⟩ | exact ⟨by rw [if_pos qi], by rw [if_pos qi]; exact xgi_si _ _ _ _, x_fa_si _ _⟩
    · have qi : ¬ s_is L p lo hi = true := is_no fun y => xb_0.mp c25 ((nI_inq (by omega) (by omega) (by omega)).mpr y.2)
      refine g_iconst (v := 0) dX6_takes_28 (by decide) ?_
      refine g_ireturn dX6_takes_29 rfl rfl (by decide) ?_
      first | exact ⟨by rw [if_neg qi], by rw [if_neg qi]; exact hp, x_fa_rf _⟩ | exact ⟨by rw [if_pos qi], by rw [if_pos qi]; exact xgi_si _ _ _ _, x_fa_si _ _⟩
set_option maxRecDepth 100000 in
theorem mX6_isNumber {l : Launch} {G : ux_G} {h : ux_H} {L : List Nat} {p : Nat} (hL : rIm L h) (hp : xgi h 192 11 = nI p) (hpl : p ≤ L.length) : ux_M l G yX6_isNumber iX6_isNumber 3 0 [.ref 192] h (fun v h' => v = some (.int (if (s_tN L p).1 ≠ -1 then 1 else 0)) ∧ xgi h' 192 11 = nI ((s_tN L p).2) ∧ x_fa h h') (fun _ _ => False) := by
  refine ux_ent (L' := [some (.ref 192)]) kX6_isNumber rfl rfl rfl rfl ?_
  have h70 := hL.2.1
  refine g_aload_n dX6_isNumber_0 rfl ?_
  refine g_bipush (v := 48) dX6_isNumber_1 (by decide) ?_
  refine g_bipush (v := 48) dX6_isNumber_3 (by decide) ?_
  refine q_V (u' := 0) lX6_234 kX6_takes (mX6_takes (lo := 48) (hi := 48) (p := p) hL hp (by omega) (by omega) (by omega)) dX6_isNumber_5 rfl rfl rfl rfl rfl rfl rfl rfl (fun v h5 hq => ?_) (fun _ _ q => q.elim)
  obtain ⟨rfl, hpA, hFA⟩ := hq
  dsimp only [Option.toList, List.cons_append, List.nil_append]
  refine g_if_eq (tgt := 13) dX6_isNumber_8 (by decide) (fun c8 => ?_) (fun c8 => ?_)
  · have qA := xb_0.mp c8
    rw [if_neg qA] at hpA
    refine g_aload_n dX6_isNumber_13 rfl ?_
    refine g_bipush (v := 49) dX6_isNumber_14 (by decide) ?_
    refine g_bipush (v := 57) dX6_isNumber_16 (by decide) ?_
    refine q_V (u' := 0) lX6_234 kX6_takes (mX6_takes (lo := 49) (hi := 57) (p := p) (rIm_fa hL hFA) hpA (by omega) (by omega) (by omega)) dX6_isNumber_18 rfl rfl rfl rfl rfl rfl rfl rfl (fun v h18 hq => ?_) (fun _ _ q => q.elim)
    obtain ⟨rfl, hpB, hFB⟩ := hq
    dsimp only [Option.toList, List.cons_append, List.nil_append]
    refine g_if_ne (tgt := 26) dX6_isNumber_21 (by decide) (fun c21 => ?_) (fun c21 => ?_)
    · have qB := xb_n0 c21
      rw [if_pos qB] at hpB
      have iB := is_of qB
      refine g_aload_n dX6_isNumber_26 rfl ?_
      refine g_bipush (v := 48) dX6_isNumber_27 (by decide) ?_
      refine g_bipush (v := 57) dX6_isNumber_29 (by decide) ?_
      refine q_V (u' := 0) lX6_234 kX6_takes (mX6_takes (lo := 48) (hi := 57) (p := p + 1) (rIm_fa (rIm_fa hL hFA) hFB) hpB iB.1 (by omega) (by omega)) dX6_isNumber_31 rfl rfl rfl rfl rfl rfl rfl rfl (fun v h31 hq => ?_) (fun _ _ q => q.elim)
      obtain ⟨rfl, hpC, hFC⟩ := hq
      dsimp only [Option.toList, List.cons_append, List.nil_append]
      refine g_pop dX6_isNumber_34 rfl ?_
      refine g_iconst (v := 1) dX6_isNumber_35 (by decide) ?_
      refine g_ireturn dX6_isNumber_36 rfl rfl (by decide) ?_
      by_cases qC : s_is L (p + 1) 48 57 = true
      · rw [if_pos qC] at hpC
        have iC := is_of qC
        exact ⟨by rw [tN_2 qB qC, if_pos (by show _ ≠ (-1 : Int); omega)], by rw [tN_2 qB qC]; exact hpC, x_fa_tr hFA (x_fa_tr hFB hFC)⟩
      · rw [if_neg qC] at hpC
        exact ⟨by rw [tN_1 qB qC, if_pos (by show _ ≠ (-1 : Int); omega)], by rw [tN_1 qB qC]; exact hpC, x_fa_tr hFA (x_fa_tr hFB hFC)⟩
    · have qB := xb_0.mp c21
      rw [if_neg qB] at hpB
      refine g_iconst (v := 0) dX6_isNumber_24 (by decide) ?_
      refine g_ireturn dX6_isNumber_25 rfl rfl (by decide) ?_
      exact ⟨by rw [tN_n qA qB]; rfl, by rw [tN_n qA qB]; exact hpB, x_fa_tr hFA hFB⟩
  · have qA := xb_n0 c8
    rw [if_pos qA] at hpA
    have iA := is_of qA
    refine g_iconst (v := 1) dX6_isNumber_11 (by decide) ?_
    refine g_ireturn dX6_isNumber_12 rfl rfl (by decide) ?_
    exact ⟨by rw [tN_0 qA]; rfl, by rw [tN_0 qA]; exact hpA, hFA⟩
set_option maxRecDepth 100000 in
theorem mX6_isMarked {l : Launch} {G : ux_G} {h : ux_H} {c hi : Nat} {L : List Nat} {p : Nat} (hL : rIm L h) (hp : xgi h 192 11 = nI p) (hpl : p ≤ L.length) (h1 : c ≤ 500) (h2 : hi ≤ 500) : ux_M l G yX6_isMarked iX6_isMarked 3 0 [.ref 192, .int (nI c), .int (nI (48 + hi))] h (fun v h' => v = some (.int (if (s_mk L p c hi).1 ≠ -1 then 1 else 0)) ∧ xgi h' 192 11 = nI ((s_mk L p c hi).2) ∧ x_fa h h') (fun _ _ => False) := by
  refine ux_ent (L' := [some (.ref 192), some (.int (nI c)), some (.int (nI (48 + hi)))]) kX6_isMarked rfl rfl rfl rfl ?_
  have h70 := hL.2.1
  refine g_aload_n dX6_isMarked_0 rfl ?_
  refine g_iload_n dX6_isMarked_1 rfl ?_
  refine g_iload_n dX6_isMarked_2 rfl ?_
  refine q_V (u' := 0) lX6_234 kX6_takes (mX6_takes (lo := c) (hi := c) (p := p) hL hp (by omega) (by omega) (by omega)) dX6_isMarked_3 rfl rfl rfl rfl rfl rfl rfl rfl (fun v h3 hq => ?_) (fun _ _ q => q.elim)
  obtain ⟨rfl, hpA, hFA⟩ := hq
  dsimp only [Option.toList, List.cons_append, List.nil_append]
  refine g_if_eq (tgt := 23) dX6_isMarked_6 (by decide) (fun c6 => ?_) (fun c6 => ?_)
  · have qA := xb_0.mp c6
    rw [if_neg qA] at hpA
    refine g_iconst (v := 0) dX6_isMarked_23 (by decide) ?_
    refine g_ireturn dX6_isMarked_24 rfl rfl (by decide) ?_
    first
    | (have e9 : s_mk L p c hi = (-1, p) := if_neg qA
       exact ⟨by rw [e9]; rfl, by rw [e9]; exact hpA, hFA⟩)
    | (have e9 : s_mk L p c hi = (-1, p + 1) := (if_pos qA).trans (tD_f qB)
       exact ⟨by rw [e9]; rfl, by rw [e9]; exact hpB, x_fa_tr hFA hFB⟩)
    | (have e9 : s_mk L p c hi = ((s_ch L (p + 1) : Int) - 48, p + 1 + 1) := (if_pos qA).trans (tD_t qB)
       exact ⟨by rw [e9, if_pos (by show _ ≠ (-1 : Int); omega)], by rw [e9]; exact hpB, x_fa_tr hFA hFB⟩)
  · have qA := xb_n0 c6
    rw [if_pos qA] at hpA
    have iA := is_of qA
    refine g_aload_n dX6_isMarked_9 rfl ?_
    refine g_bipush (v := 48) dX6_isMarked_10 (by decide) ?_
    refine g_iload_n dX6_isMarked_12 rfl ?_
    refine q_V (u' := 0) lX6_234 kX6_takes (mX6_takes (lo := 48) (hi := (48 + hi)) (p := p + 1) (rIm_fa hL hFA) hpA iA.1 (by omega) (by omega)) dX6_isMarked_13 rfl rfl rfl rfl rfl rfl rfl rfl (fun v h13 hq => ?_) (fun _ _ q => q.elim)
    obtain ⟨rfl, hpB, hFB⟩ := hq
    dsimp only [Option.toList, List.cons_append, List.nil_append]
    refine g_if_eq (tgt := 23) dX6_isMarked_16 (by decide) (fun c16 => ?_) (fun c16 => ?_)
    · have qB := xb_0.mp c16
      rw [if_neg qB] at hpB
      refine g_iconst (v := 0) dX6_isMarked_23 (by decide) ?_
      refine g_ireturn dX6_isMarked_24 rfl rfl (by decide) ?_
      first
      | (have e9 : s_mk L p c hi = (-1, p) := if_neg qA
         exact ⟨by rw [e9]; rfl, by rw [e9]; exact hpA, hFA⟩)
      | (have e9 : s_mk L p c hi = (-1, p + 1) := (if_pos qA).trans (tD_f qB)
         exact ⟨by rw [e9]; rfl, by rw [e9]; exact hpB, x_fa_tr hFA hFB⟩)
      | (have e9 : s_mk L p c hi = ((s_ch L (p + 1) : Int) - 48, p + 1 + 1) := (if_pos qA).trans (tD_t qB)
         exact ⟨by rw [e9, if_pos (by show _ ≠ (-1 : Int); omega)], by rw [e9]; exact hpB, x_fa_tr hFA hFB⟩)
    · have qB := xb_n0 c16
      rw [if_pos qB] at hpB
      have iB := is_of qB
      refine g_iconst (v := 1) dX6_isMarked_19 (by decide) ?_
      refine g_goto (tgt := 24) dX6_isMarked_20 (by decide) ?_
      refine g_ireturn dX6_isMarked_24 rfl rfl (by decide) ?_
      first
      | (have e9 : s_mk L p c hi = (-1, p) := if_neg qA
         exact ⟨by rw [e9]; rfl, by rw [e9]; exact hpA, hFA⟩)
      | (have e9 : s_mk L p c hi = (-1, p + 1) := (if_pos qA).trans (tD_f qB)
         exact ⟨by rw [e9]; rfl, by rw [e9]; exact hpB, x_fa_tr hFA hFB⟩)
      | (have e9 : s_mk L p c hi = ((s_ch L (p + 1) : Int) - 48, p + 1 + 1) := (if_pos qA).trans (tD_t qB)
         exact ⟨by rw [e9, if_pos (by show _ ≠ (-1 : Int); omega)], by rw [e9]; exact hpB, x_fa_tr hFA hFB⟩)
