/-! THE REFERENCE: an entry is done. -/
theorem mk_ok {L : List Nat} {q c hi : Nat} (h : (s_mk L q c hi).1 ≠ -1) : s_is L q c c = true ∧ s_is L (q + 1) 48 (48 + hi) = true ∧ s_mk L q c hi = ((s_ch L (q + 1) : Int) - 48, q + 2) := by
  by_cases a : s_is L q c c = true
  · by_cases b : s_is L (q + 1) 48 (48 + hi) = true
    · exact ⟨a, b, (if_pos a).trans (tD_t b)⟩
    · exact absurd (show (s_mk L q c hi).1 = -1 by rw [show s_mk L q c hi = (-1, q + 1) from (if_pos a).trans (tD_f b)]) h
  · exact absurd (show (s_mk L q c hi).1 = -1 by rw [show s_mk L q c hi = (-1, q) from if_neg a]) h
theorem ok_t {L : List Nat} {p : Nat} (h : (s_tE L p).1 = true) (hq : s_is L p 116 116 = true) : ∃ su p1, s_tTa L (p + 1) = (su, p1) ∧ su ≠ 0 ∧ s_is L p1 42 42 = true ∧ s_is L (p1 + 1) 49 52 = true ∧ s_is L (p1 + 2) 59 59 = true ∧ s_tE L p = (true, p1 + 3) := by
  obtain ⟨⟨su, p1⟩, hx⟩ : ∃ x, s_tTa L (p + 1) = x := ⟨_, rfl⟩
  by_cases h0 : su = 0
  · rw [tE_t0 hq (by rw [hx]; exact h0)] at h; cases h
  · by_cases h1 : s_is L p1 42 42 = true
    · by_cases h2 : s_is L (p1 + 1) 49 52 = true
      · by_cases h3 : s_is L (p1 + 2) 59 59 = true
        · exact ⟨su, p1, hx, h0, h1, h2, h3, tE_t4 hq hx h0 h1 h2 h3⟩
        · rw [tE_t3 hq hx h0 h1 h2 h3] at h; cases h
      · rw [tE_t2 hq hx h0 h1 h2] at h; cases h
    · rw [tE_t1 hq hx h0 h1] at h; cases h
theorem cl_ok {L : List Nat} {x : Bool × Nat} (h : (s_cl L x).1 = true) : x.1 = true ∧ s_is L x.2 59 59 = true ∧ s_cl L x = (true, x.2 + 1) := by
  obtain ⟨b, q⟩ := x
  cases b with
  | false => rw [cl_f rfl] at h; cases h
  | true =>
    by_cases y : s_is L q 59 59 = true
    · exact ⟨rfl, y, cl_tt rfl y⟩
    · rw [cl_tf rfl y] at h; cases h
theorem ok_l {L : List Nat} {p : Nat} (h : (s_tE L p).1 = true) (h1 : ¬ s_is L p 116 116 = true) (hq : s_is L p 108 108 = true) : ∃ n1, (s_tN L (p + 1)).1 ≠ -1 ∧ (s_tN L (p + 1)).2 = n1 ∧ s_is L n1 99 99 = true ∧ (s_l1 L (p + 1)).1 = (s_ch L (n1 + 1) : Int) - 48 ∧ s_is L (n1 + 1) 48 53 = true ∧ (s_l2 L (p + 1)).1 = (s_ch L (n1 + 3) : Int) - 48 ∧ s_is L (n1 + 3) 48 53 = true ∧ (s_l3 L (p + 1)).1 = (s_ch L (n1 + 5) : Int) - 48 ∧ s_is L (n1 + 5) 48 55 = true ∧ (s_l4 L (p + 1)).1 = (s_ch L (n1 + 7) : Int) - 48 ∧ s_is L (n1 + 7) 48 53 = true ∧ s_is L (n1 + 8) 59 59 = true ∧ s_tE L p = (true, n1 + 9) := by
  rw [tE_l h1 hq] at h ⊢
  obtain ⟨a, b, c⟩ := cl_ok h
  by_cases q0 : (s_tN L (p + 1)).1 ≠ -1
  · by_cases q1 : (s_l1 L (p + 1)).1 ≠ -1
    · by_cases q2 : (s_l2 L (p + 1)).1 ≠ -1
      · by_cases q3 : (s_l3 L (p + 1)).1 ≠ -1
        · have e := tL_4 q0 q1 q2 q3
          rw [e] at a b c
          have q4 : (s_l4 L (p + 1)).1 ≠ -1 := of_decide_eq_true a
          obtain ⟨n1, hn⟩ : ∃ n1, (s_tN L (p + 1)).2 = n1 := ⟨_, rfl⟩
          obtain ⟨a1, b1, c1⟩ := mk_ok q1
          have e1 : s_l1 L (p + 1) = ((s_ch L (n1 + 1) : Int) - 48, n1 + 2) := by rw [← hn]; exact c1
          have q2' : (s_mk L (s_l1 L (p + 1)).2 115 5).1 ≠ -1 := q2
          rw [e1] at q2'
          obtain ⟨a2, b2, c2⟩ := mk_ok q2'
          have e2 : s_l2 L (p + 1) = ((s_ch L (n1 + 3) : Int) - 48, n1 + 4) := by unfold s_l2; rw [e1]; exact c2
          have q3' : (s_mk L (s_l2 L (p + 1)).2 112 7).1 ≠ -1 := q3
          rw [e2] at q3'
          obtain ⟨a3, b3, c3⟩ := mk_ok q3'
          have e3 : s_l3 L (p + 1) = ((s_ch L (n1 + 5) : Int) - 48, n1 + 6) := by unfold s_l3; rw [e2]; exact c3
          have q4' : (s_mk L (s_l3 L (p + 1)).2 114 5).1 ≠ -1 := q4
          rw [e3] at q4'
          obtain ⟨a4, b4, c4⟩ := mk_ok q4'
          have e4 : s_l4 L (p + 1) = ((s_ch L (n1 + 7) : Int) - 48, n1 + 8) := by unfold s_l4; rw [e3]; exact c4
          rw [e4] at b c
          rw [hn] at a1 b1
          refine ⟨n1, q0, hn, a1, by rw [e1], b1, by rw [e2], b2, by rw [e3], b3, by rw [e4], b4, b, ?_⟩
          rw [e, e4]; exact c
        · rw [tL_3 q0 q1 q2 q3] at a; cases a
      · rw [tL_2 q0 q1 q2] at a; cases a
    · rw [tL_1 q0 q1] at a; cases a
  · rw [tL_0 q0] at a; cases a
theorem ok_a {L : List Nat} {p : Nat} (h : (s_tE L p).1 = true) (h1 : ¬ s_is L p 116 116 = true) (h2 : ¬ s_is L p 108 108 = true) (hq : s_is L p 97 97 = true) : s_is L (p + 1) 48 55 = true ∧ s_tD L (p + 1) 0 7 = ((s_ch L (p + 1) : Int) - 48, p + 2) ∧ s_is L (p + 2) 64 64 = true ∧ (s_tN L (p + 3)).1 ≠ -1 ∧ s_is L (s_tN L (p + 3)).2 59 59 = true ∧ s_tE L p = (true, (s_tN L (p + 3)).2 + 1) := by
  rw [tE_a h1 h2 hq] at h ⊢
  obtain ⟨a, b, c⟩ := cl_ok h
  by_cases q0 : s_is L (p + 1) 48 55 = true
  · by_cases q1 : s_is L (p + 2) 64 64 = true
    · have e := tA_2 q0 q1
      rw [e] at a b c
      refine ⟨q0, tD_t q0, q1, of_decide_eq_true a, b, ?_⟩
      rw [e]; exact c
    · rw [tA_1 q0 q1] at a; cases a
  · rw [tA_0 q0] at a; cases a
/-- what doing an entry leaves as it was -/
def x_fd (h h' : ux_H) : Prop := (∀ c, c ≠ 192 → c ≠ 193 → ∀ j, h' c j = h c j) ∧ ∀ j, j ≠ 0 → j ≠ 11 → h' 192 j = h 192 j
theorem x_fd_rf (h : ux_H) : x_fd h h := ⟨fun _ _ _ _ => rfl, fun _ _ _ => rfl⟩
theorem x_fd_tr {h h1 h2 : ux_H} (a : x_fd h h1) (b : x_fd h1 h2) : x_fd h h2 := ⟨fun c p q j => (b.1 c p q j).trans (a.1 c p q j), fun j p q => (b.2 j p q).trans (a.2 j p q)⟩
theorem x_fd_a {h h1 : ux_H} (a : x_fa h h1) : x_fd h h1 := ⟨fun c p q j => a c j (by omega), fun j p q => a 192 j (by omega)⟩
theorem x_fd_p {h h1 : ux_H} (a : x_fp h h1) : x_fd h h1 := ⟨a.1, fun j p _ => a.2 j p⟩
theorem x_fd_m {h h1 : ux_H} (a : x_fm h h1) : x_fd h h1 := ⟨fun c _ q j => a c q j, fun j _ _ => a 192 (by decide) j⟩
theorem rM_a {A : Ab} {h h1 : ux_H} (hM : rM 193 0 A h) (a : x_fa h h1) : rM 193 0 A h1 := rM_fr hM fun j => a 193 j (by omega)
def QDo (A : Ab) (L : List Nat) (p : Nat) (h : ux_H) (v : Option Value) (h' : ux_H) : Prop := v = some (.int (nI (s_tE L p).2)) ∧ x_fd h h' ∧ (s_ref A L p = true → xgi h' 192 0 ≠ 0) ∧ (¬ s_ref A L p = true → xgi h' 192 0 = 0 ∧ rM 193 0 (s_do A L p) h')
set_option maxRecDepth 100000 in
theorem tX6_set {l : Launch} {G : ux_G} {Q9 : Option Value → ux_H → Prop} {X9 : String → ux_H → Prop} {h0 : ux_H} {L : List Nat} {p p1 s1 : Nat} {y1 : Int32} (hL0 : rIn L h0) (hT1 : s_tTa L (p + 1) = (s1, p1)) (hs : s_is L p1 42 42 = true) (K : ∀ h, xgi h 192 11 = nI p1 → x_fa h0 h → ux_W l G iX6_does (ux_rm 13 0) (ux_Z G 0 Q9 X9) 61 [some (.ref 192), some (.int y1), some (.int (nI s1)), none] [] h 0) : ∀ (n : Nat) (m lo su r : Nat) (h : ux_H), s_tTa L (p + 1) = s_tT1 L m (s_tD L r lo 5).1 su (s_tD L r lo 5).2 → xgi h 192 11 = nI r → x_fa h0 h → r < L.length → su < 2 ^ lo → lo ≤ 6 → 6 ≤ m + lo → m < n → ux_W l G iX6_does (ux_rm 13 0) (ux_Z G 0 Q9 X9) 20 [some (.ref 192), some (.int y1), some (.int (nI su)), none] [] (h) 0 := by
  intro n
  induction n with
  | zero => intro m lo su r h hT hp hF hr hsu hlo hm hn; exact absurd hn (Nat.not_lt_zero _)
  | succ n ih =>
    intro m lo su r h hT hp hF hr hsu hlo hm hn
    have h70 := hL0.1
    obtain ⟨r1, r2, r3⟩ := rIn_ch hL0 hr
    refine g_aload_n dX6_does_20 rfl ?_
    refine g_getr (q := 197) fX6_22 dX6_does_21 rfl rfl rfl ?_
    refine g_aload_n dX6_does_24 rfl ?_
    refine g_geti fX6_231 dX6_does_25 rfl rfl ?_
    refine g_top hp ?_
    refine g_iald dX6_does_28 rfl (show r < 70 by omega) rfl ?_
    refine g_top (y := nI (s_ch L r)) ((x_fa_g hF (by omega)).trans r1) ?_
    refine g_bipush (v := 42) dX6_does_29 (by decide) ?_
    refine g_icmp_eq (tgt := 61) dX6_does_31 (by decide) (fun c31 => ?_) (fun c31 => ?_)
    · have q31 : s_ch L r = 42 := by rw [show (42 : Int32) = nI 42 by decide, nI_iI, nI_iI, iI_eq (by omega) (by omega) (by omega) (by omega)] at c31; omega
      have e := tD_f (L := L) (p := r) (lo := lo) (hi := 5) (is_no fun y => by omega)
      rw [e, s_tT1_0 rfl] at hT
      have eT := hT1.symm.trans hT
      injection eT with eT1 eT2
      subst eT1
      subst eT2
      exact K h hp hF
    · have q31 : s_ch L r ≠ 42 := fun y => c31 (by rw [y]; rfl)
      have qd : s_is L r (48 + lo) (48 + 5) = true := Decidable.byContradiction fun y => by
        rw [tD_f y, s_tT1_0 rfl] at hT
        have eT := hT1.symm.trans hT
        injection eT with eT1 eT2
        have eT2 : p1 = r := eT2
        rw [eT2] at hs
        have := is_of hs
        omega
      have iq := is_of qd
      have z2 := x_p2 (s_ch L r - 48) (by omega)
      have zz : 2 ^ lo ≤ 2 ^ (s_ch L r - 48) := Nat.pow_le_pow_right (by decide) (by omega)
      have z3 : 2 ^ (s_ch L r - 48 + 1) = 2 ^ (s_ch L r - 48) + 2 ^ (s_ch L r - 48) := by rw [Nat.pow_succ]; omega
      have hT2 : s_tTa L (p + 1) = s_tT1 L (m - 1) (s_tD L (r + 1) (s_ch L r - 48 + 1) 5).1 (su + 2 ^ (s_ch L r - 48)) (s_tD L (r + 1) (s_ch L r - 48 + 1) 5).2 := by
        obtain ⟨m1, rfl⟩ : ∃ m1, m = m1 + 1 := ⟨m - 1, by omega⟩
        rw [hT, tD_t qd, s_tT1_s (by show (s_ch L r : Int) - 48 ≠ -1; omega), Nat.add_sub_cancel, show ((s_ch L r : Int) - 48).toNat = s_ch L r - 48 by omega]
      have hr2 : r + 1 < L.length := by
        rcases Nat.lt_or_ge (r + 1) L.length with y | y
        · exact y
        · exfalso
          rw [tD_f (is_no fun w => by omega), s_tT1_0 rfl] at hT2
          have eT := hT1.symm.trans hT2
          injection eT with eT1 eT2
          have eT2 : p1 = r + 1 := eT2
          rw [eT2] at hs
          have := is_of hs
          omega
      refine g_iload_n dX6_does_34 rfl ?_
      refine g_iconst (v := 1) dX6_does_35 (by decide) ?_
      refine g_aload_n dX6_does_36 rfl ?_
      refine g_getr (q := 197) fX6_22 dX6_does_37 rfl rfl rfl ?_
      refine g_aload_n dX6_does_40 rfl ?_
      refine g_dup dX6_does_41 rfl ?_
      refine g_geti fX6_231 dX6_does_42 rfl rfl ?_
      refine g_top hp ?_
      refine g_dup_x1 dX6_does_45 rfl rfl ?_
      refine g_iconst (v := 1) dX6_does_46 (by decide) ?_
      refine g_iadd dX6_does_47 ?_
      refine g_top (nI_1 _) ?_
      refine g_puti pX6_231 dX6_does_48 rfl rfl ?_
      refine g_iald dX6_does_51 rfl (show r < 70 by omega) rfl ?_
      refine g_top (y := nI (s_ch L r)) ((xgi_ne _ _ _ _ _ _ (by omega)).trans ((x_fa_g hF (by omega)).trans r1)) ?_
      refine g_bipush (v := 48) dX6_does_52 (by decide) ?_
      refine g_isub dX6_does_54 ?_
      refine g_top (y := nI (s_ch L r - 48)) (pk_sub (a := s_ch L r) (b := 48) (by omega)) ?_
      refine g_ishl dX6_does_55 ?_
      refine g_ior dX6_does_56 ?_
      refine g_top (y := nI (su + 2 ^ (s_ch L r - 48))) (x_or _ (by omega) _ (by omega) (by omega)) ?_
      refine s_i (i := 2) dX6_does_57 rfl rfl rfl rfl ?_
      dsimp only [List.set]
      refine g_goto (tgt := 20) dX6_does_58 (by decide) ?_
      exact ih (m - 1) (s_ch L r - 48 + 1) (su + 2 ^ (s_ch L r - 48)) (r + 1) _ hT2 (xgi_si _ _ _ _) (x_fa_tr hF (x_fa_si _ _)) hr2 (by omega) (by omega) (by omega) (by omega)
