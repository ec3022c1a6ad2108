/-! THE REFERENCE: rows are kept and taken back. -/
def x_fk (k : Nat) (h h' : ux_H) : Prop := ∀ c, c ≠ k → ∀ j, h' c j = h c j
theorem x_fk_rf (k : Nat) (h : ux_H) : x_fk k h h := fun _ _ _ => rfl
theorem x_fk_tr {k : Nat} {h h1 h2 : ux_H} (a : x_fk k h h1) (b : x_fk k h1 h2) : x_fk k h h2 := fun c hc j => (b c hc j).trans (a c hc j)
theorem x_fk_si (h : ux_H) (k j : Nat) (x : Int32) : x_fk k h (xsi h k j x) := fun a ha b => by unfold xsi xsv; rw [if_neg (by omega)]
theorem x_fk_g {k : Nat} {h h' : ux_H} (a : x_fk k h h') {c : Nat} (hc : c ≠ k) (j : Nat) : xgi h' c j = xgi h c j := by unfold xgi; rw [a c hc j]
theorem cp_s {h : ux_H} {g : Nat → Int32} {k o j : Nat} {x : Int32} (H : ∀ m, m < j → xgi h k (o + m) = g m) (hx : x = g j) : ∀ m, m < j + 1 → xgi (xsi h k (o + j) x) k (o + m) = g m := fun m hm => by
  rw [xgi_sif]
  by_cases q : m = j
  · rw [if_pos ⟨rfl, by rw [q]⟩, q]; exact hx
  · rw [if_neg (by omega)]; exact H m (by omega)
theorem m_at_lt {f j : Nat} (h : b_in f j) : m_at f j < 376 := by
  rcases m_at_w h with k | ⟨w, k⟩ | k | k | k <;> omega
/-- a row that has been copied holds what it held -/
theorem rM_cp {c o c' o' : Nat} {A : Ab} {h h' : ux_H} (hM : rM c o A h) (i1 : A.1 ≤ 8) (i2 : A.2.1 ≤ 40) (e : ∀ m, m < 376 → xgi h' c' (o' + m) = xgi h c (o + m)) : rM c' o' A h' :=
  ⟨(e 0 (by decide)).trans hM.1, (e 1 (by decide)).trans hM.2.1, fun f j hf => (e _ (m_at_lt (b_in_of hf i1 i2))).trans (hM.2.2 f j hf)⟩
theorem rM_cp0 {c c' : Nat} {A : Ab} {h h' : ux_H} (hM : rM c 0 A h) (i1 : A.1 ≤ 8) (i2 : A.2.1 ≤ 40) (e : ∀ m, m < 376 → xgi h' c' m = xgi h c m) : rM c' 0 A h' :=
  rM_cp hM i1 i2 fun m hm => by rw [Nat.zero_add]; exact e m hm
theorem rM_fr {c o : Nat} {A : Ab} {h h' : ux_H} (hM : rM c o A h) (e : ∀ j, h' c j = h c j) : rM c o A h' := by
  have g : ∀ j, xgi h' c j = xgi h c j := fun j => by unfold xgi; rw [e j]
  exact ⟨(g _).trans hM.1, (g _).trans hM.2.1, fun f j hf => (g _).trans (hM.2.2 f j hf)⟩
/-- the schools that are kept, the newest first -/
def rK (Hs : List Ab) (h : ux_H) : Prop := xgi h 192 6 = nI Hs.length ∧ Hs.length ≤ 8 ∧ (∀ B, B ∈ Hs → B.1 ≤ 8 ∧ B.2.1 ≤ 40) ∧ ∀ (k : Nat) (B : Ab), Hs[k]? = some B → rM 196 (376 * (Hs.length - 1 - k)) B h
def x_fc (h h' : ux_H) : Prop := (∀ c, c ≠ 192 → c ≠ 196 → ∀ j, h' c j = h c j) ∧ ∀ j, j ≠ 6 → h' 192 j = h 192 j
theorem x_fc_rf (h : ux_H) : x_fc h h := ⟨fun _ _ _ _ => rfl, fun _ _ => rfl⟩
theorem x_fc_tr {h h1 h2 : ux_H} (a : x_fc h h1) (b : x_fc h1 h2) : x_fc h h2 := ⟨fun c h1 h2 j => (b.1 c h1 h2 j).trans (a.1 c h1 h2 j), fun j hj => (b.2 j hj).trans (a.2 j hj)⟩
theorem x_fc_6 (h : ux_H) (x : Int32) : x_fc h (xsi h 192 6 x) := ⟨fun c h1 h2 j => by unfold xsi xsv; rw [if_neg (by omega)], fun j hj => by unfold xsi xsv; rw [if_neg (by omega)]⟩
theorem x_fc_k {h h' : ux_H} (a : x_fk 196 h h') : x_fc h h' := ⟨fun c h1 h2 j => a c h2 j, fun j _ => a 192 (by decide) j⟩
theorem rK_fr {Hs : List Ab} {h h' : ux_H} (hK : rK Hs h) (e : ∀ j, h' 196 j = h 196 j) (e6 : h' 192 6 = h 192 6) : rK Hs h' :=
  ⟨by rw [← hK.1]; unfold xgi; rw [e6], hK.2.1, hK.2.2.1, fun k B hk => rM_fr (hK.2.2.2 k B hk) e⟩
set_option maxRecDepth 100000 in
theorem wX6_keepsAhead {l : Launch} {G : ux_G} {h0 : ux_H} : ∀ (n : Nat) (j : Nat) (h : ux_H), j ≤ 376 → (∀ m, m < j → xgi h 195 (0 + m) = xgi h0 193 m) → x_fk 195 h0 h → 376 - j < n → ux_W l G iX6_keepsAhead (ux_rm 1 0) (ux_Z G 0 (fun v h' => v = none ∧ (∀ m, m < 376 → xgi h' 195 (0 + m) = xgi h0 193 m) ∧ x_fk 195 h0 h') (fun _ _ => False)) 2 [some (.ref 192), some (.int (nI j))] [] (h) 0 := by
  intro n
  induction n with
  | zero => intro j h hj hE hF hn; exact absurd hn (Nat.not_lt_zero _)
  | succ n ih =>
    intro j h hj hE hF hn
    refine g_iload_n dX6_keepsAhead_2 rfl ?_
    refine g_sipush (v := 376) dX6_keepsAhead_3 (by decide) ?_
    refine g_icmp_ge (tgt := 27) dX6_keepsAhead_6 (by decide) (fun c6 => ?_) (fun c6 => ?_)
    · have e : j = 376 := by rw [show (376 : Int32) = nI 376 by decide] at c6; have := xlt_i c6 (by omega) (by omega); omega
      subst e
      refine g_return dX6_keepsAhead_27 rfl (by decide) ?_
      exact ⟨rfl, hE, hF⟩
    · have hlt : j < 376 := by rw [show (376 : Int32) = nI 376 by decide] at c6; exact xnl_i c6 (by omega) (by omega)
      refine g_aload_n dX6_keepsAhead_9 rfl ?_
      refine g_getr (q := 195) fX6_16 dX6_keepsAhead_10 rfl rfl rfl ?_
      refine g_iload_n dX6_keepsAhead_13 rfl ?_
      refine g_aload_n dX6_keepsAhead_14 rfl ?_
      refine g_getr (q := 193) fX6_9 dX6_keepsAhead_15 rfl rfl rfl ?_
      refine g_iload_n dX6_keepsAhead_18 rfl ?_
      refine g_iald dX6_keepsAhead_19 rfl (show j < 376 by omega) rfl ?_
      refine g_iast dX6_keepsAhead_20 rfl (show j < 376 by omega) rfl ?_
      refine s_inc (v := nI (j + 1)) dX6_keepsAhead_21 rfl nI_s rfl rfl rfl ?_
      dsimp only [List.set]
      refine g_goto (tgt := 2) dX6_keepsAhead_24 (by decide) ?_
      have e9 := cp_s (k := 195) (o := 0) (j := j) (x := xgi h 193 j) hE (x_fk_g hF (by decide) j)
      rw [Nat.zero_add] at e9
      exact ih (j + 1) _ (by omega) e9 (x_fk_tr hF (x_fk_si _ _ _ _)) (by omega)
set_option maxRecDepth 100000 in
theorem mX6_keepsAhead {l : Launch} {G : ux_G} {h : ux_H}  : ux_M l G yX6_keepsAhead iX6_keepsAhead 1 0 [.ref 192] h (fun v h' => v = none ∧ (∀ m, m < 376 → xgi h' 195 m = xgi h 193 m) ∧ x_fk 195 h h') (fun _ _ => False) := by
  refine ux_ent (L' := [some (.ref 192), none]) kX6_keepsAhead rfl rfl rfl rfl ?_
  refine g_iconst (v := 0) dX6_keepsAhead_0 (by decide) ?_
  refine s_i (i := 1) dX6_keepsAhead_1 rfl rfl rfl rfl ?_
  dsimp only [List.set]
  have w9 := wX6_keepsAhead (l := l) (G := G) (h0 := h) 377 0 h (Nat.zero_le _) (fun m hm => absurd hm (Nat.not_lt_zero _)) (x_fk_rf _ _) (by omega)
  simp only [Nat.zero_add] at w9
  exact w9
set_option maxRecDepth 100000 in
theorem vX6_changes {l : Launch} {G : ux_G} {A : Ab} {Hs : List Ab} {h9 : ux_H} {n7 : Nat} {h0 : ux_H} (hn : n7 < 8) (hn6 : xgi h0 192 6 = nI n7) (K : ∀ h, (∀ m, m < 376 → xgi h 196 (376 * n7 + m) = xgi h0 193 m) → (∀ m, m < 376 * n7 → xgi h 196 m = xgi h0 196 m) → x_fk 196 h0 h → ux_W l G iX6_changes (ux_rm 2 0) (ux_Z G 0 (fun v h' => v = none ∧ rK ((A :: Hs).take 8) h' ∧ x_fc h9 h') (fun _ _ => False)) 86 [some (.ref 192), none] [] h 0) : ∀ (n : Nat) (j : Nat) (h : ux_H), j ≤ 376 → (∀ m, m < j → xgi h 196 (376 * n7 + m) = xgi h0 193 m) → (∀ m, m < 376 * n7 → xgi h 196 m = xgi h0 196 m) → x_fk 196 h0 h → 376 - j < n → ux_W l G iX6_changes (ux_rm 2 0) (ux_Z G 0 (fun v h' => v = none ∧ rK ((A :: Hs).take 8) h' ∧ x_fc h9 h') (fun _ _ => False)) 52 [some (.ref 192), some (.int (nI j))] [] (h) 0 := by
  intro n
  induction n with
  | zero => intro j h hj hE hL hF hn; exact absurd hn (Nat.not_lt_zero _)
  | succ n ih =>
    intro j h hj hE hL hF hn
    refine g_iload_n dX6_changes_52 rfl ?_
    refine g_sipush (v := 376) dX6_changes_53 (by decide) ?_
    refine g_icmp_ge (tgt := 86) dX6_changes_56 (by decide) (fun c56 => ?_) (fun c56 => ?_)
    · have e : j = 376 := by rw [show (376 : Int32) = nI 376 by decide] at c56; have := xlt_i c56 (by omega) (by omega); omega
      subst e
      refine g_fg 1 rfl ?_
      dsimp only [List.set]
      exact K h hE hL hF
    · have hlt : j < 376 := by rw [show (376 : Int32) = nI 376 by decide] at c56; exact xnl_i c56 (by omega) (by omega)
      refine g_aload_n dX6_changes_59 rfl ?_
      refine g_getr (q := 196) fX6_19 dX6_changes_60 rfl rfl rfl ?_
      refine g_sipush (v := 376) dX6_changes_63 (by decide) ?_
      refine g_aload_n dX6_changes_66 rfl ?_
      refine g_geti fX6_65 dX6_changes_67 rfl rfl ?_
      refine g_top (y := nI n7) ((x_fk_g hF (by decide) 6).trans hn6) ?_
      refine g_imul dX6_changes_70 ?_
      refine g_top (y := nI (376 * n7)) (by rw [show (376 : Int32) = nI 376 by decide, pk_mul]) ?_
      refine g_iload_n dX6_changes_71 rfl ?_
      refine g_iadd dX6_changes_72 ?_
      refine g_top (y := nI (376 * n7 + j)) (nI_add _ _) ?_
      refine g_aload_n dX6_changes_73 rfl ?_
      refine g_getr (q := 193) fX6_9 dX6_changes_74 rfl rfl rfl ?_
      refine g_iload_n dX6_changes_77 rfl ?_
      refine g_iald dX6_changes_78 rfl (show j < 376 by omega) rfl ?_
      refine g_iast dX6_changes_79 rfl (show 376 * n7 + j < 3008 by omega) rfl ?_
      refine s_inc (v := nI (j + 1)) dX6_changes_80 rfl nI_s rfl rfl rfl ?_
      dsimp only [List.set]
      refine g_goto (tgt := 52) dX6_changes_83 (by decide) ?_
      exact ih (j + 1) _ (by omega) (cp_s (k := 196) (o := 376 * n7) (j := j) (x := xgi h 193 j) hE (x_fk_g hF (by decide) j)) (fun m hm => by rw [xgi_ne _ _ _ _ _ _ (by omega)]; exact hL m hm) (x_fk_tr hF (x_fk_si _ _ _ _)) (by omega)
set_option maxRecDepth 100000 in
theorem uX6_changes {l : Launch} {G : ux_G} {A : Ab} {Hs : List Ab} {h9 : ux_H} {h0 : ux_H} (K : ∀ h, (∀ m, m < 2632 → xgi h 196 m = xgi h0 196 (m + 376)) → x_fk 196 h0 h → ux_W l G iX6_changes (ux_rm 2 0) (ux_Z G 0 (fun v h' => v = none ∧ rK ((A :: Hs).take 8) h' ∧ x_fc h9 h') (fun _ _ => False)) 40 [some (.ref 192), none] [] h 0) : ∀ (n : Nat) (j : Nat) (h : ux_H), j ≤ 2632 → (∀ m, m < j → xgi h 196 m = xgi h0 196 (m + 376)) → (∀ m, j ≤ m → xgi h 196 m = xgi h0 196 m) → x_fk 196 h0 h → 2632 - j < n → ux_W l G iX6_changes (ux_rm 2 0) (ux_Z G 0 (fun v h' => v = none ∧ rK ((A :: Hs).take 8) h' ∧ x_fc h9 h') (fun _ _ => False)) 11 [some (.ref 192), some (.int (nI j))] [] (h) 0 := by
  intro n
  induction n with
  | zero => intro j h hj hE hL hF hn; exact absurd hn (Nat.not_lt_zero _)
  | succ n ih =>
    intro j h hj hE hL hF hn
    refine g_iload_n dX6_changes_11 rfl ?_
    refine g_sipush (v := 2632) dX6_changes_12 (by decide) ?_
    refine g_icmp_ge (tgt := 40) dX6_changes_15 (by decide) (fun c15 => ?_) (fun c15 => ?_)
    · have e : j = 2632 := by rw [show (2632 : Int32) = nI 2632 by decide] at c15; have := xlt_i c15 (by omega) (by omega); omega
      subst e
      refine g_fg 1 rfl ?_
      dsimp only [List.set]
      exact K h hE hF
    · have hlt : j < 2632 := by rw [show (2632 : Int32) = nI 2632 by decide] at c15; exact xnl_i c15 (by omega) (by omega)
      refine g_aload_n dX6_changes_18 rfl ?_
      refine g_getr (q := 196) fX6_19 dX6_changes_19 rfl rfl rfl ?_
      refine g_iload_n dX6_changes_22 rfl ?_
      refine g_aload_n dX6_changes_23 rfl ?_
      refine g_getr (q := 196) fX6_19 dX6_changes_24 rfl rfl rfl ?_
      refine g_iload_n dX6_changes_27 rfl ?_
      refine g_sipush (v := 376) dX6_changes_28 (by decide) ?_
      refine g_iadd dX6_changes_31 ?_
      refine g_top (y := nI (j + 376)) (by rw [show (376 : Int32) = nI 376 by decide, nI_add]) ?_
      refine g_iald dX6_changes_32 rfl (show j + 376 < 3008 by omega) rfl ?_
      refine g_iast dX6_changes_33 rfl (show j < 3008 by omega) rfl ?_
      refine s_inc (v := nI (j + 1)) dX6_changes_34 rfl nI_s rfl rfl rfl ?_
      dsimp only [List.set]
      refine g_goto (tgt := 11) dX6_changes_37 (by decide) ?_
      refine ih (j + 1) _ (by omega) (fun m hm => ?_) (fun m hm => by rw [xgi_ne _ _ _ _ _ _ (by omega)]; exact hL m (by omega)) (x_fk_tr hF (x_fk_si _ _ _ _)) (by omega)
      rw [xgi_sif]
      by_cases q : m = j
      · rw [if_pos ⟨rfl, q⟩, q]; exact hL (j + 376) (by omega)
      · rw [if_neg (fun y => q y.2)]; exact hE m (by omega)
set_option maxRecDepth 100000 in
theorem tX6_changes {l : Launch} {G : ux_G} {h h1 : ux_H} {A : Ab} {Hs Ts : List Ab} {n : Nat} (hM : rM 193 0 A h1) (i1 : A.1 ≤ 8) (i2 : A.2.1 ≤ 40) (hn : Ts.length = n) (hn8 : n < 8) (hn6 : xgi h1 192 6 = nI n) (hb : ∀ B, B ∈ Ts → B.1 ≤ 8 ∧ B.2.1 ≤ 40) (hr : ∀ (k : Nat) (B : Ab), Ts[k]? = some B → rM 196 (376 * (n - 1 - k)) B h1) (e : (A :: Hs).take 8 = A :: Ts) (hF : x_fc h h1) : ux_W l G iX6_changes (ux_rm 2 0) (ux_Z G 0 (fun v h' => v = none ∧ rK ((A :: Hs).take 8) h' ∧ x_fc h h') (fun _ _ => False)) 50 [some (.ref 192), none] [] h1 0 := by
  refine g_iconst (v := 0) dX6_changes_50 (by decide) ?_
  refine s_i (i := 1) dX6_changes_51 rfl rfl rfl rfl ?_
  dsimp only [List.set]
  refine vX6_changes (l := l) (G := G) (A := A) (Hs := Hs) (h9 := h) (h0 := h1) hn8 hn6 ?_ 377 0 h1 (Nat.zero_le _) (fun m hm => absurd hm (Nat.not_lt_zero _)) (fun _ _ => rfl) (x_fk_rf _ _) (by omega)
  intro h2 hE2 hL2 hF2
  refine g_aload_n dX6_changes_86 rfl ?_
  refine g_dup dX6_changes_87 rfl ?_
  refine g_geti fX6_65 dX6_changes_88 rfl rfl ?_
  refine g_top (y := nI n) (by rw [show xgi h2 192 6 = xgi h1 192 6 from x_fk_g hF2 (by decide) 6]; exact hn6) ?_
  refine g_iconst (v := 1) dX6_changes_91 (by decide) ?_
  refine g_iadd dX6_changes_92 ?_
  refine g_top (nI_1 n) ?_
  refine g_puti pX6_65 dX6_changes_93 rfl rfl ?_
  refine g_return dX6_changes_96 rfl (by decide) ?_
  refine ⟨rfl, ?_, x_fc_tr hF (x_fc_tr (x_fc_k hF2) (x_fc_6 _ _))⟩
  rw [e]
  refine ⟨by rw [xgi_si, List.length_cons, hn], by rw [List.length_cons]; omega, fun B hB => ?_, fun k B hk => ?_⟩
  · rcases List.mem_cons.mp hB with q | q
    · rw [q]; exact ⟨i1, i2⟩
    · exact hb B q
  · refine rM_fr (h := h2) ?_ (fun j => by unfold xsi xsv; rw [if_neg (by omega)])
    rw [List.length_cons, hn]
    cases k with
    | zero =>
      have e1 : A = B := by simpa using hk
      subst e1
      refine rM_cp (c := 193) (o := 0) hM i1 i2 (fun m hm => ?_)
      rw [show n + 1 - 1 - 0 = n by omega, Nat.zero_add]
      exact hE2 m hm
    | succ k =>
      have hk2 : Ts[k]? = some B := by simpa using hk
      have hkl := (List.getElem?_eq_some_iff.mp hk2).1
      obtain ⟨b1, b2⟩ := hb B (List.mem_of_getElem? hk2)
      refine rM_cp (hr k B hk2) b1 b2 (fun m hm => ?_)
      rw [show n + 1 - 1 - (k + 1) = n - 1 - k by omega]
      have : 376 * (n - 1 - k) + 376 ≤ 376 * n := by
        have := Nat.mul_le_mul_left 376 (show n - 1 - k + 1 ≤ n by omega)
        omega
      exact hL2 _ (by omega)
set_option maxRecDepth 100000 in
theorem mX6_changes {l : Launch} {G : ux_G} {h : ux_H} {A : Ab} {Hs : List Ab} (hM : rM 193 0 A h) (i1 : A.1 ≤ 8) (i2 : A.2.1 ≤ 40) (hK : rK Hs h) : ux_M l G yX6_changes iX6_changes 2 0 [.ref 192] h (fun v h' => v = none ∧ rK ((A :: Hs).take 8) h' ∧ x_fc h h') (fun _ _ => False) := by
  refine ux_ent (L' := [some (.ref 192), none]) kX6_changes rfl rfl rfl rfl ?_
  refine g_aload_n dX6_changes_0 rfl ?_
  refine g_geti fX6_65 dX6_changes_1 rfl rfl ?_
  refine g_top (y := nI Hs.length) hK.1 ?_
  refine g_bipush (v := 8) dX6_changes_4 (by decide) ?_
  refine g_icmp_ne (tgt := 50) dX6_changes_6 (by decide) (fun c6 => ?_) (fun c6 => ?_)
  · have q6 : Hs.length < 8 := by
      rcases Nat.lt_or_eq_of_le hK.2.1 with q | q
      · exact q
      · exact absurd (by rw [q]; rfl) c6
    exact tX6_changes (Ts := Hs) (n := Hs.length) hM i1 i2 rfl q6 hK.1 hK.2.2.1 hK.2.2.2 (by rw [List.take_of_length_le (by rw [List.length_cons]; omega)]) (x_fc_rf h)
  · have h88 := hK.2.1
    have q6 : Hs.length = 8 := by
      rw [show (8 : Int32) = nI 8 by decide, nI_iI, nI_iI, iI_eq (by omega) (by omega) (by omega) (by omega)] at c6
      omega
    refine g_iconst (v := 0) dX6_changes_9 (by decide) ?_
    refine s_i (i := 1) dX6_changes_10 rfl rfl rfl rfl ?_
    dsimp only [List.set]
    refine uX6_changes (l := l) (G := G) (A := A) (Hs := Hs) (h9 := h) (h0 := h) ?_ 2633 0 h (Nat.zero_le _) (fun m hm => absurd hm (Nat.not_lt_zero _)) (fun _ _ => rfl) (x_fk_rf _ _) (by omega)
    intro h2 hE2 hF2
    refine g_aload_n dX6_changes_40 rfl ?_
    refine g_dup dX6_changes_41 rfl ?_
    refine g_geti fX6_65 dX6_changes_42 rfl rfl ?_
    refine g_top (y := nI 8) (by rw [x_fk_g hF2 (by decide) 6, hK.1, q6]) ?_
    refine g_iconst (v := 1) dX6_changes_45 (by decide) ?_
    refine g_isub dX6_changes_46 ?_
    refine g_top (y := nI 7) (by decide) ?_
    refine g_puti pX6_65 dX6_changes_47 rfl rfl ?_
    refine tX6_changes (Ts := Hs.take 7) (n := 7) (rM_fr hM fun j => ?_) i1 i2 (by rw [List.length_take]; omega) (by decide) (xgi_si _ _ _ _) (fun B hB => hK.2.2.1 B (List.mem_of_mem_take hB)) (fun k B hk => ?_) rfl (x_fc_tr (x_fc_k hF2) (x_fc_6 _ _))
    · show (xsi h2 192 6 (nI 7)) 193 j = h 193 j
      unfold xsi xsv
      rw [if_neg (by omega)]
      exact hF2 193 (by decide) j
    · rw [List.getElem?_take] at hk
      split at hk
      · next k7 =>
        refine rM_fr (h := h2) ?_ (fun j => by unfold xsi xsv; rw [if_neg (by omega)])
        have b := hK.2.2.1 B (List.mem_of_getElem? hk)
        refine rM_cp (hK.2.2.2 k B hk) b.1 b.2 (fun m hm => ?_)
        rw [q6, hE2 _ (by omega), show 376 * (7 - 1 - k) + m + 376 = 376 * (8 - 1 - k) + m by omega]
      · cases hk
