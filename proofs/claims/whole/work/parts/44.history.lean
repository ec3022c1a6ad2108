/-! THE CLASS: the history: a ring of schools. -/
def rHw (w : Nat) (Hs : List Ab) (h : ux_H) : Prop := w < 8 ∧ xgi h 177 1 = nI w ∧ xgi h 177 2 = nI Hs.length ∧ Hs.length ≤ 8 ∧ ∀ k A, Hs[k]? = some A → rC (48 + 16 * ((w + 8 - k) % 8)) A h
def rH (Hs : List Ab) (h : ux_H) : Prop := ∃ w, rHw w Hs h
/-- nothing has changed but the history -/
def x_frH (h h' : ux_H) : Prop := ∀ k, (k < 48 ∨ 177 < k ∨ k = 176) → ∀ j, h' k j = h k j
theorem hs_rf : ∀ w, w < 8 → ux_rf 178 w = some (48 + 16 * w) := by decide
theorem hs_sc {w : Nat} (h : w < 8) : x_sc (48 + 16 * w) := ⟨by omega, by omega⟩
theorem hs_q {w : Nat} (h : w < 8) : Nat.ble (48 + 16 * w) 203 = true := Nat.ble_eq_true_of_le (by omega)
theorem xgi_cp (h : ux_H) (ca cb : Nat) {k : Nat} (hk : k < ca ∨ ca + 15 < k) (j : Nat) : xgi (x_cp h ca cb) k j = xgi h k j := by unfold xgi; rw [x_cp_ne h ca cb hk]
theorem rH_nil {Hs : List Ab} {h : ux_H} (hH : rH Hs h) : rH [] (xsi h 177 2 0) := by
  obtain ⟨w, a, b, c, d, e⟩ := hH
  exact ⟨w, a, by rw [xgi_ne _ _ _ _ _ _ (by omega)]; exact b, by rw [xgi_si]; rfl, by decide, fun k A q => by simp at q⟩
theorem rC_si {A : Ab} {h : ux_H} {c k j : Nat} {x : Int32} (hC : rC c A h) (hk : k < c ∨ c + 16 ≤ k) : rC c A (xsi h k j x) :=
  rC_ne hC fun a h1 h2 b => by unfold xsi xsv; rw [if_neg (by omega)]
theorem x_frH_si (h : ux_H) (j : Nat) (x : Int32) : x_frH h (xsi h 177 j x) := fun k hk a => by
  unfold xsi xsv; rw [if_neg (by omega)]
theorem x_frH_rf (h : ux_H) : x_frH h h := fun _ _ _ => rfl
theorem x_frH_tr {h h1 h2 : ux_H} (a : x_frH h h1) (b : x_frH h1 h2) : x_frH h h2 := fun k hk j => (b k hk j).trans (a k hk j)
set_option maxRecDepth 100000 in
theorem mX0_forget {l : Launch} {G : ux_G} {h : ux_H}  : ux_F l G yX0_forget iX0_forget 1 0 [.ref 177] h (none) (xsi h 177 2 0) := by
  unfold ux_F
  refine ux_ent (L' := [some (.ref 177)]) kX0_forget rfl rfl rfl rfl ?_
  refine g_aload_n dX0_forget_0 rfl ?_
  refine g_iconst (v := 0) dX0_forget_1 (by decide) ?_
  refine g_puti pX0_21 dX0_forget_2 rfl rfl ?_
  refine g_return dX0_forget_5 rfl (by decide) ?_
  exact ⟨rfl, rfl⟩
set_option maxRecDepth 100000 in
theorem mX0_newestPast {l : Launch} {G : ux_G} {h : ux_H} {w : Nat} (hw : w < 8) (hn : xgi h 177 1 = nI w) : ux_F l G yX0_newestPast iX0_newestPast 1 0 [.ref 177] h (some (.ref (48 + 16 * w))) (h) := by
  unfold ux_F
  refine ux_ent (L' := [some (.ref 177)]) kX0_newestPast rfl rfl rfl rfl ?_
  refine g_aload_n dX0_newestPast_0 rfl ?_
  refine g_geti fX0_17 dX0_newestPast_1 rfl rfl ?_
  refine g_top hn ?_
  refine g_if_lt (tgt := 31) dX0_newestPast_4 (by decide) (fun c4 => ?_) (fun c4 => ?_)
  · exact absurd c4 (nI_pos (by omega))
  · refine g_aload_n dX0_newestPast_7 rfl ?_
    refine g_geti fX0_17 dX0_newestPast_8 rfl rfl ?_
    refine g_top hn ?_
    refine g_aload_n dX0_newestPast_11 rfl ?_
    refine g_getr (q := 178) fX0_11 dX0_newestPast_12 rfl rfl rfl ?_
    refine g_alen (v := nI (ux_ln 178)) dX0_newestPast_15 (by decide) rfl ?_
    refine g_icmp_ge (tgt := 31) dX0_newestPast_16 (by decide) (fun c16 => ?_) (fun c16 => ?_)
    · exact absurd c16 (nI_ge (show w < 8 from hw) (ux_ln_lt 178))
    · refine g_aload_n dX0_newestPast_19 rfl ?_
      refine g_getr (q := 178) fX0_11 dX0_newestPast_20 rfl rfl rfl ?_
      refine g_aload_n dX0_newestPast_23 rfl ?_
      refine g_geti fX0_17 dX0_newestPast_24 rfl rfl ?_
      refine g_top hn ?_
      refine g_aald (q := 48 + 16 * w) dX0_newestPast_27 rfl (show w < 8 from hw) rfl (hs_rf w hw) (hs_q hw) ?_
      refine g_goto (tgt := 32) dX0_newestPast_28 (by decide) ?_
      refine g_areturn dX0_newestPast_32 rfl (by decide) ?_
      exact ⟨rfl, rfl⟩
set_option maxRecDepth 100000 in
theorem w2_remember {l : Launch} {G : ux_G} {h : ux_H} {A : Ab} {Hs : List Ab} {cb w : Nat} (hC : rC cb A h) (i1 : A.1 ≤ 8) (i2 : A.2.1 ≤ 40) (hb : x_sc cb) (hc : cb < 48) (hH : rHw w Hs h) {w2 : Nat} (e2 : w2 = (w + 1) % 8) : ux_W l G iX0_remember (ux_rm 3 0) (ux_Z G 0 (fun v h' => v = none ∧ rH ((A :: Hs).take 8) h' ∧ x_frH h h') (fun _ _ => False)) 22 [some (.ref 177), some (.ref cb), none] [.int (nI w2), .ref 177] (h) 0 := by
  have hw0 := hH.1
  have hw : w2 < 8 := by omega
  refine g_puti pX0_17 dX0_remember_22 rfl rfl ?_
  refine g_aload_n dX0_remember_25 rfl ?_
  refine f1_V (u' := 0) lX0_25 kX0_newestPast (mX0_newestPast (w := w2) hw (xgi_si _ _ _ _)) dX0_remember_26 rfl rfl rfl rfl rfl rfl rfl rfl ?_
  refine s_a (i := 2) dX0_remember_29 rfl rfl rfl rfl ?_
  dsimp only [List.set]
  refine g_aload_n dX0_remember_30 rfl ?_
  refine g_ifnull dX0_remember_31 ?_
  refine g_aload_n dX0_remember_34 rfl ?_
  refine g_aload_n dX0_remember_35 rfl ?_
  refine f0_VN (u' := 0) lX0_29 kX4_copyFrom (mX4_copyFrom (hs_sc hw) hb (by omega)) dX0_remember_36 rfl rfl rfl (sc_kd (hs_sc hw)) rfl rfl rfl rfl ?_
  refine g_aload_n dX0_remember_39 rfl ?_
  refine g_aload_n dX0_remember_40 rfl ?_
  refine g_geti fX0_21 dX0_remember_41 rfl rfl ?_
  refine g_top (y := nI Hs.length) (by rw [show xgi (x_cp (xsi h 177 1 (nI w2)) (48 + 16 * w2) cb) 177 2 = xgi (xsi h 177 1 (nI w2)) 177 2 by unfold xgi; rw [x_cp_ne _ _ _ (by omega)], xgi_ne _ _ _ _ _ _ (by omega)]; exact hH.2.2.1) ?_
  refine g_iconst (v := 1) dX0_remember_44 (by decide) ?_
  refine g_iadd dX0_remember_45 ?_
  refine g_top (nI_1 _) ?_
  refine g_bipush (v := 8) dX0_remember_46 (by decide) ?_
  refine g_min xmin_X0_33 xmin_s xmath_i xmin_c dX0_remember_48 rfl rfl ?_
  refine g_puti pX0_21 dX0_remember_51 rfl rfl ?_
  refine g_return dX0_remember_54 rfl (by decide) ?_
  refine ⟨rfl, ⟨w2, hw, ?_, ?_, ?_, ?_⟩, ?_⟩
  · rw [xgi_ne _ _ _ _ _ _ (by omega), xgi_cp _ _ _ (by omega)]
    exact xgi_si _ _ _ _
  · rw [xgi_si]
    have q8 := hH.2.2.2.1
    by_cases q : Hs.length = 8
    · rw [if_pos (by rw [q]; decide)]; simp [List.length_take, q]; decide
    · rw [if_neg (by rw [show (8 : Int32) = nI 8 by decide, Int32.not_lt, nI_leI (by omega) (by omega)]; omega), List.length_take, List.length_cons, Nat.min_eq_right (by omega)]
  · rw [List.length_take]; exact Nat.min_le_left _ _
  · intro k B hk
    rw [List.getElem?_take] at hk
    split at hk
    · next k8 =>
      cases k with
      | zero =>
        have e9 : A = B := by simpa using hk
        subst e9
        rw [show 48 + 16 * ((w2 + 8 - 0) % 8) = 48 + 16 * w2 by omega]
        exact rC_si (rC_cp (hs_sc hw) hb (by omega) (rC_si hC (by omega)) i1 i2) (by omega)
      | succ k =>
        have hk2 : Hs[k]? = some B := by simpa using hk
        have q := hH.2.2.2.2 k B hk2
        rw [show 48 + 16 * ((w2 + 8 - (k + 1)) % 8) = 48 + 16 * ((w + 8 - k) % 8) by omega]
        obtain ⟨r, hr⟩ : ∃ r, r = (w + 8 - k) % 8 := ⟨_, rfl⟩
        have hr1 : r ≠ w2 := by omega
        have hr2 : r < 8 := by omega
        rw [← hr] at q ⊢
        refine rC_si (rC_ne (rC_si (k := 177) q (by omega) (j := 1) (x := nI w2)) fun a h1 h2 b => ?_) (by omega)
        exact x_cp_ne _ _ _ (by omega) b
    · cases hk
  · refine x_frH_tr (x_frH_tr (x_frH_si h 1 (nI w2)) ?_) (x_frH_si _ 2 _)
    intro k hk j
    exact x_cp_ne _ _ _ (by omega) j
set_option maxRecDepth 100000 in
theorem mX0_remember {l : Launch} {G : ux_G} {h : ux_H} {A : Ab} {Hs : List Ab} {cb w : Nat} (hC : rC cb A h) (i1 : A.1 ≤ 8) (i2 : A.2.1 ≤ 40) (hb : x_sc cb) (hc : cb < 48) (hH : rHw w Hs h) : ux_M l G yX0_remember iX0_remember 3 0 [.ref 177, .ref cb] h (fun v h' => v = none ∧ rH ((A :: Hs).take 8) h' ∧ x_frH h h') (fun _ _ => False) := by
  refine ux_ent (L' := [some (.ref 177), some (.ref cb), none]) kX0_remember rfl rfl rfl rfl ?_
  have hw0 := hH.1
  refine g_aload_n dX0_remember_0 rfl ?_
  refine g_aload_n dX0_remember_1 rfl ?_
  refine g_geti fX0_17 dX0_remember_2 rfl rfl ?_
  refine g_top hH.2.1 ?_
  refine g_iconst (v := 1) dX0_remember_5 (by decide) ?_
  refine g_iadd dX0_remember_6 ?_
  refine g_top (nI_1 _) ?_
  refine g_bipush (v := 8) dX0_remember_7 (by decide) ?_
  refine g_icmp_ge (tgt := 21) dX0_remember_9 (by decide) (fun c9 => ?_) (fun c9 => ?_)
  · have q9 : 8 ≤ w + 1 := (nI_leI (by omega) (by omega)).mp c9
    refine g_iconst (v := 0) dX0_remember_21 (by decide) ?_
    first
    | exact w2_remember hC i1 i2 hb hc hH (w2 := w + 1) (by omega)
    | exact w2_remember hC i1 i2 hb hc hH (w2 := 0) (by omega)
  · have q9 : w + 1 < 8 := xnl_i (a := 8) c9 (by omega) (by omega)
    refine g_aload_n dX0_remember_12 rfl ?_
    refine g_geti fX0_17 dX0_remember_13 rfl rfl ?_
    refine g_top hH.2.1 ?_
    refine g_iconst (v := 1) dX0_remember_16 (by decide) ?_
    refine g_iadd dX0_remember_17 ?_
    refine g_top (nI_1 _) ?_
    refine g_goto (tgt := 22) dX0_remember_18 (by decide) ?_
    first
    | exact w2_remember hC i1 i2 hb hc hH (w2 := w + 1) (by omega)
    | exact w2_remember hC i1 i2 hb hc hH (w2 := 0) (by omega)
set_option maxRecDepth 100000 in
theorem w2_goBack {l : Launch} {G : ux_G} {h : ux_H} {A : Ab} {Hs : List Ab} {w : Nat} (i1 : A.1 ≤ 8) (i2 : A.2.1 ≤ 40) (hH : rHw w (A :: Hs) h) {w2 : Nat} (e2 : w2 = (w + 7) % 8) : ux_W l G iX0_goBack (ux_rm 3 0) (ux_Z G 0 (fun v h' => v = none ∧ rC 0 A h' ∧ rH Hs h' ∧ ∀ k, 16 ≤ k → k ≠ 177 → ∀ j, h' k j = h k j) (fun _ _ => False)) 33 [some (.ref 177), some (.ref 0), some (.ref (48 + 16 * w))] [.int (nI w2), .ref 177] (x_cp h 0 (48 + 16 * w)) 0 := by
  have hw0 := hH.1
  have e1 : ∀ j, xgi (x_cp h 0 (48 + 16 * w)) 177 j = xgi h 177 j := fun j => by unfold xgi; rw [x_cp_ne _ _ _ (by omega)]
  refine g_puti pX0_17 dX0_goBack_33 rfl rfl ?_
  refine g_aload_n dX0_goBack_36 rfl ?_
  refine g_dup dX0_goBack_37 rfl ?_
  refine g_geti fX0_21 dX0_goBack_38 rfl rfl ?_
  refine g_top (y := nI (Hs.length + 1)) (by rw [xgi_ne _ _ _ _ _ _ (by omega), e1]; exact hH.2.2.1) ?_
  refine g_iconst (v := 1) dX0_goBack_41 (by decide) ?_
  refine g_isub dX0_goBack_42 ?_
  refine g_top (y := nI Hs.length) (pk_sub (a := Hs.length + 1) (b := 1) (by omega)) ?_
  refine g_puti pX0_21 dX0_goBack_43 rfl rfl ?_
  refine g_return dX0_goBack_46 rfl (by decide) ?_
  have qC : rC (48 + 16 * w) A h := by have := hH.2.2.2.2 0 A rfl; rwa [show 48 + 16 * ((w + 8 - 0) % 8) = 48 + 16 * w by omega] at this
  refine ⟨rfl, rC_si (rC_si (rC_cp ⟨by omega, by omega⟩ (hs_sc hw0) (by omega) qC i1 i2) (by omega)) (by omega), ⟨w2, by omega, ?_, xgi_si _ _ _ _, ?_, ?_⟩, ?_⟩
  · rw [xgi_ne _ _ _ _ _ _ (by omega)]; exact xgi_si _ _ _ _
  · have := hH.2.2.2.1; rw [List.length_cons] at this; omega
  · intro k B hk
    have hk8 : k < 8 := by
      have := hH.2.2.2.1
      rw [List.length_cons] at this
      have := (List.getElem?_eq_some_iff.mp hk).1
      omega
    have q := hH.2.2.2.2 (k + 1) B (by simpa using hk)
    rw [show 48 + 16 * ((w2 + 8 - k) % 8) = 48 + 16 * ((w + 8 - (k + 1)) % 8) by omega]
    obtain ⟨r, hr⟩ : ∃ r, r = (w + 8 - (k + 1)) % 8 := ⟨_, rfl⟩
    have hr2 : r < 8 := by omega
    rw [← hr] at q ⊢
    refine rC_si (rC_si (rC_ne q fun a h1 h2 b => x_cp_ne _ _ _ (by omega) b) (by omega)) (by omega)
  · intro k h1 h2 j
    unfold xsi xsv
    rw [if_neg (by omega), if_neg (by omega)]
    exact x_cp_ne _ _ _ (by omega) j
set_option maxRecDepth 100000 in
theorem mX0_goBack {l : Launch} {G : ux_G} {h : ux_H} {A : Ab} {Hs : List Ab} {w : Nat} (i1 : A.1 ≤ 8) (i2 : A.2.1 ≤ 40) (hH : rHw w (A :: Hs) h) : ux_M l G yX0_goBack iX0_goBack 3 0 [.ref 177, .ref 0] h (fun v h' => v = none ∧ rC 0 A h' ∧ rH Hs h' ∧ ∀ k, 16 ≤ k → k ≠ 177 → ∀ j, h' k j = h k j) (fun _ _ => False) := by
  refine ux_ent (L' := [some (.ref 177), some (.ref 0), none]) kX0_goBack rfl rfl rfl rfl ?_
  have hw0 := hH.1
  have e1 : ∀ j, xgi (x_cp h 0 (48 + 16 * w)) 177 j = xgi h 177 j := fun j => by unfold xgi; rw [x_cp_ne _ _ _ (by omega)]
  refine g_aload_n dX0_goBack_0 rfl ?_
  refine f1_V (u' := 0) lX0_25 kX0_newestPast (mX0_newestPast (w := w) hw0 hH.2.1) dX0_goBack_1 rfl rfl rfl rfl rfl rfl rfl rfl ?_
  refine s_a (i := 2) dX0_goBack_4 rfl rfl rfl rfl ?_
  dsimp only [List.set]
  refine g_aload_n dX0_goBack_5 rfl ?_
  refine g_ifnull dX0_goBack_6 ?_
  refine g_aload_n dX0_goBack_9 rfl ?_
  refine g_aload_n dX0_goBack_10 rfl ?_
  refine f0_VN (u' := 0) lX0_29 kX4_copyFrom (mX4_copyFrom (ca := 0) ⟨by omega, by omega⟩ (hs_sc hw0) (by omega)) dX0_goBack_11 rfl rfl rfl rfl rfl rfl rfl rfl ?_
  refine g_aload_n dX0_goBack_14 rfl ?_
  refine g_aload_n dX0_goBack_15 rfl ?_
  refine g_geti fX0_17 dX0_goBack_16 rfl rfl ?_
  refine g_top (y := nI w) (by rw [e1]; exact hH.2.1) ?_
  refine g_if_le (tgt := 31) dX0_goBack_19 (by decide) (fun c19 => ?_) (fun c19 => ?_)
  · have q19 : w ≤ 0 := (nI_leI (b := 0) (by omega) (by omega)).mp c19
    refine g_bipush (v := 7) dX0_goBack_31 (by decide) ?_
    first
    | exact w2_goBack i1 i2 hH (w2 := w - 1) (by omega)
    | exact w2_goBack i1 i2 hH (w2 := 7) (by omega)
  · have q19 : 0 < w := by rcases Nat.eq_zero_or_pos w with q | q; exact absurd (by rw [q]; decide) c19; exact q
    refine g_aload_n dX0_goBack_22 rfl ?_
    refine g_geti fX0_17 dX0_goBack_23 rfl rfl ?_
    refine g_top (y := nI w) (by rw [e1]; exact hH.2.1) ?_
    refine g_iconst (v := 1) dX0_goBack_26 (by decide) ?_
    refine g_isub dX0_goBack_27 ?_
    refine g_top (y := nI (w - 1)) (pk_sub (a := w) (b := 1) (by omega)) ?_
    refine g_goto (tgt := 33) dX0_goBack_28 (by decide) ?_
    first
    | exact w2_goBack i1 i2 hH (w2 := w - 1) (by omega)
    | exact w2_goBack i1 i2 hH (w2 := 7) (by omega)
