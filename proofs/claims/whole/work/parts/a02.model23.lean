/-! THE REFERENCE: save, restore, a sign more; numbers that are told. -/
/-- the row that is saved -/
def rS (sv : Bool) (S : Ab) (h : ux_H) : Prop := xgi h 192 3 = (if sv then 1 else 0) ∧ (sv = true → rM 194 0 S h ∧ S.1 ≤ 8 ∧ S.2.1 ≤ 40)
/-- the signs in the row -/
def rIn (L : List Nat) (h : ux_H) : Prop := L.length ≤ 70 ∧ (∀ v, v ∈ L → 32 ≤ v ∧ v < 127) ∧ ∀ (j v : Nat), L[j]? = some v → xgi h 197 j = nI v
theorem rIn_ch {L : List Nat} {h : ux_H} (hL : rIn L h) {p : Nat} (hp : p < L.length) : xgi h 197 p = nI (s_ch L p) ∧ 32 ≤ s_ch L p ∧ s_ch L p < 127 := by
  obtain ⟨v, hv⟩ : ∃ v, L[p]? = some v := ⟨_, List.getElem?_eq_getElem hp⟩
  have e : s_ch L p = v := by unfold s_ch; rw [hv]; rfl
  rw [e]
  exact ⟨hL.2.2 p v hv, hL.2.1 v (List.mem_of_getElem? hv)⟩
theorem rIn_fr {L : List Nat} {h h' : ux_H} (hL : rIn L h) (e : ∀ j, h' 197 j = h 197 j) : rIn L h' := ⟨hL.1, hL.2.1, fun j v q => by unfold xgi; rw [e j]; exact hL.2.2 j v q⟩
theorem rIm_add {L : List Nat} {h : ux_H} (hL : rIm L h) {c : Nat} (hc : 32 ≤ c ∧ c < 127) (hl : L.length < 70) : rIm (L ++ [c]) (xsi (xsi h 192 8 (nI (L.length + 1))) 197 L.length (nI c)) := by
  obtain ⟨a, b, d, e⟩ := hL
  refine ⟨?_, by rw [List.length_append]; exact hl, fun v hv => ?_, fun j v hj => ?_⟩
  · rw [xgi_ne _ _ _ _ _ _ (by omega), xgi_si, List.length_append]; rfl
  · rcases List.mem_append.mp hv with q | q
    · exact d v q
    · rw [List.mem_singleton.mp q]; exact hc
  · rw [xgi_sif]
    by_cases q : j = L.length
    · rw [if_pos ⟨rfl, q⟩]
      subst q
      rw [List.getElem?_append_right (Nat.le_refl _), Nat.sub_self] at hj
      have : c = v := by simpa using hj
      rw [this]
    · rw [if_neg (fun y => q y.2), xgi_ne _ _ _ _ _ _ (by omega)]
      refine e j v ?_
      have hl2 := (List.getElem?_eq_some_iff.mp hj).1
      rw [List.length_append, List.length_cons, List.length_nil] at hl2
      rwa [List.getElem?_append_left (by omega)] at hj
/-- what saving leaves as it was -/
def x_fs (h h' : ux_H) : Prop := (∀ c, c < 192 ∨ c = 193 ∨ 195 ≤ c → ∀ j, h' c j = h c j) ∧ ∀ j, j ≠ 0 → j ≠ 3 → h' 192 j = h 192 j
/-- what a sign more leaves as it was -/
def x_fi (h h' : ux_H) : Prop := (∀ c, c ≠ 192 → c ≠ 197 → ∀ j, h' c j = h c j) ∧ ∀ j, j ≠ 0 → j ≠ 8 → h' 192 j = h 192 j
set_option maxRecDepth 100000 in
theorem wX6_save {l : Launch} {G : ux_G} {h9 : ux_H} {A : Ab} (hM0 : rM 193 0 A h9) (i1 : A.1 ≤ 8) (i2 : A.2.1 ≤ 40) : ∀ (n : Nat) (j : Nat) (h : ux_H), j ≤ 376 → (∀ m, m < j → xgi h 194 (0 + m) = xgi (xsi (xsi h9 192 0 0) 192 3 1) 193 m) → x_fk 194 (xsi (xsi h9 192 0 0) 192 3 1) h → 376 - j < n → ux_W l G iX6_save (ux_rm 3 0) (ux_Z G 0 (fun v h' => v = some (.int (nI A.2.1)) ∧ xgi h' 192 0 = 0 ∧ rM 193 0 A h' ∧ rS true A h' ∧ x_fs h9 h') (fun _ _ => False)) 12 [some (.ref 192), some (.int (nI j))] [] (h) 0 := by
  intro n
  induction n with
  | zero => intro j h hj hE hF hn; exact absurd hn (Nat.not_lt_zero _)
  | succ n ih =>
    intro j h hj hE hF hn
    refine g_iload_n dX6_save_12 rfl ?_
    refine g_sipush (v := 376) dX6_save_13 (by decide) ?_
    refine g_icmp_ge (tgt := 37) dX6_save_16 (by decide) (fun c16 => ?_) (fun c16 => ?_)
    · have e : j = 376 := by rw [show (376 : Int32) = nI 376 by decide] at c16; have := xlt_i c16 (by omega) (by omega); omega
      subst e
      refine g_aload_n dX6_save_37 rfl ?_
      refine f1_V (u' := 0) lX6_54 kX6_lessons (mX6_lessons (A := A) (rM_k9 (rM_0t (Or.inl rfl) (rM_0t (Or.inl rfl) hM0)) hF (by decide))) dX6_save_38 rfl rfl rfl rfl rfl rfl rfl rfl ?_
      refine g_ireturn dX6_save_41 rfl rfl (by decide) ?_
      refine ⟨rfl, (x_fk_g hF (by decide) 0).trans ((xgi_ne _ _ _ _ _ _ (by decide)).trans (xgi_si _ _ _ _)), rM_k9 (rM_0t (Or.inl rfl) (rM_0t (Or.inl rfl) hM0)) hF (by decide), ⟨(x_fk_g hF (by decide) 3).trans (xgi_si _ _ _ _), fun _ => ⟨rM_cp0 (rM_0t (Or.inl rfl) (rM_0t (Or.inl rfl) hM0)) i1 i2 (fun m hm => by have := hE m hm; rwa [Nat.zero_add] at this), i1, i2⟩⟩, fun c hc b => ?_, fun b h1 h2 => ?_⟩
      · rw [hF c (by omega) b]; unfold xsi xsv; rw [if_neg (by omega), if_neg (by omega)]
      · rw [hF 192 (by omega) b]; unfold xsi xsv; rw [if_neg (by omega), if_neg (by omega)]
    · have hlt : j < 376 := by rw [show (376 : Int32) = nI 376 by decide] at c16; exact xnl_i c16 (by omega) (by omega)
      refine g_aload_n dX6_save_19 rfl ?_
      refine g_getr (q := 194) fX6_13 dX6_save_20 rfl rfl rfl ?_
      refine g_iload_n dX6_save_23 rfl ?_
      refine g_aload_n dX6_save_24 rfl ?_
      refine g_getr (q := 193) fX6_9 dX6_save_25 rfl rfl rfl ?_
      refine g_iload_n dX6_save_28 rfl ?_
      refine g_iald dX6_save_29 rfl (show j < 376 by omega) rfl ?_
      refine g_iast dX6_save_30 rfl (show j < 376 by omega) rfl ?_
      refine s_inc (v := nI (j + 1)) dX6_save_31 rfl nI_s rfl rfl rfl ?_
      dsimp only [List.set]
      refine g_goto (tgt := 12) dX6_save_34 (by decide) ?_
      have e9 := cp_s (k := 194) (o := 0) (j := j) (x := xgi h 193 j) hE (x_fk_g hF (by decide) j)
      rw [Nat.zero_add] at e9
      exact ih (j + 1) _ (by omega) e9 (x_fk_tr hF (x_fk_si _ _ _ _)) (by omega)
set_option maxRecDepth 100000 in
theorem mX6_save {l : Launch} {G : ux_G} {h : ux_H} {A : Ab} (hM : rM 193 0 A h) (i1 : A.1 ≤ 8) (i2 : A.2.1 ≤ 40) : ux_M l G yX6_save iX6_save 3 0 [.ref 192] h (fun v h' => v = some (.int (nI A.2.1)) ∧ xgi h' 192 0 = 0 ∧ rM 193 0 A h' ∧ rS true A h' ∧ x_fs h h') (fun _ _ => False) := by
  refine ux_ent (L' := [some (.ref 192), none]) kX6_save rfl rfl rfl rfl ?_
  refine g_aload_n dX6_save_0 rfl ?_
  refine g_iconst (v := 0) dX6_save_1 (by decide) ?_
  refine g_puti pX6_44 dX6_save_2 rfl rfl ?_
  refine g_aload_n dX6_save_5 rfl ?_
  refine g_iconst (v := 1) dX6_save_6 (by decide) ?_
  refine g_put pX6_261 dX6_save_7 rfl rfl rfl rfl ?_
  refine g_iconst (v := 0) dX6_save_10 (by decide) ?_
  refine s_i (i := 1) dX6_save_11 rfl rfl rfl rfl ?_
  dsimp only [List.set]
  exact wX6_save (l := l) (G := G) (h9 := h) hM i1 i2 377 0 _ (Nat.zero_le _) (fun m hm => absurd hm (Nat.not_lt_zero _)) (x_fk_rf _ _) (by omega)
set_option maxRecDepth 100000 in
theorem wX6_restore {l : Launch} {G : ux_G} {h9 : ux_H} {S : Ab} (hM0 : rM 194 0 S h9) (i1 : S.1 ≤ 8) (i2 : S.2.1 ≤ 40) : ∀ (n : Nat) (j : Nat) (h : ux_H), j ≤ 376 → (∀ m, m < j → xgi h 193 (0 + m) = xgi (xsi h9 192 0 0) 194 m) → x_fk 193 (xsi h9 192 0 0) h → 376 - j < n → ux_W l G iX6_restore (ux_rm 3 0) (ux_Z G 0 (fun v h' => v = some (.int (nI S.2.1)) ∧ xgi h' 192 0 = 0 ∧ rM 193 0 S h' ∧ rK [] h' ∧ x_fN h9 h') (fun _ _ => False)) 20 [some (.ref 192), some (.int (nI j))] [] (h) 0 := by
  intro n
  induction n with
  | zero => intro j h hj hE hF hn; exact absurd hn (Nat.not_lt_zero _)
  | succ n ih =>
    intro j h hj hE hF hn
    refine g_iload_n dX6_restore_20 rfl ?_
    refine g_sipush (v := 376) dX6_restore_21 (by decide) ?_
    refine g_icmp_ge (tgt := 45) dX6_restore_24 (by decide) (fun c24 => ?_) (fun c24 => ?_)
    · have e : j = 376 := by rw [show (376 : Int32) = nI 376 by decide] at c24; have := xlt_i c24 (by omega) (by omega); omega
      subst e
      have hMS : rM 193 0 S h := rM_cp0 (rM_0t (j := 0) (x := 0) (Or.inr (Or.inl rfl)) hM0) i1 i2 (fun m hm => by have := hE m hm; rwa [Nat.zero_add] at this)
      refine g_aload_n dX6_restore_45 rfl ?_
      refine g_iconst (v := 0) dX6_restore_46 (by decide) ?_
      refine g_puti pX6_65 dX6_restore_47 rfl rfl ?_
      refine g_aload_n dX6_restore_50 rfl ?_
      refine f1_V (u' := 0) lX6_54 kX6_lessons (mX6_lessons (A := S) (rM_0t (Or.inl rfl) hMS)) dX6_restore_51 rfl rfl rfl rfl rfl rfl rfl rfl ?_
      refine g_ireturn dX6_restore_54 rfl rfl (by decide) ?_
      exact ⟨rfl, (xgi_ne _ _ _ _ _ _ (by decide)).trans ((x_fk_g hF (by decide) 0).trans (xgi_si _ _ _ _)), rM_0t (Or.inl rfl) hMS, ⟨xgi_si _ _ _ _, by decide, fun B hB => absurd hB (by simp), fun k B hk => absurd hk (by simp)⟩, x_fN_tr (x_fN_0 _ _) (x_fN_T (x_fT_tr (x_fT_k hF (Or.inl rfl)) (x_fT_si _ _ (Or.inl rfl))))⟩
    · have hlt : j < 376 := by rw [show (376 : Int32) = nI 376 by decide] at c24; exact xnl_i c24 (by omega) (by omega)
      refine g_aload_n dX6_restore_27 rfl ?_
      refine g_getr (q := 193) fX6_9 dX6_restore_28 rfl rfl rfl ?_
      refine g_iload_n dX6_restore_31 rfl ?_
      refine g_aload_n dX6_restore_32 rfl ?_
      refine g_getr (q := 194) fX6_13 dX6_restore_33 rfl rfl rfl ?_
      refine g_iload_n dX6_restore_36 rfl ?_
      refine g_iald dX6_restore_37 rfl (show j < 376 by omega) rfl ?_
      refine g_iast dX6_restore_38 rfl (show j < 376 by omega) rfl ?_
      refine s_inc (v := nI (j + 1)) dX6_restore_39 rfl nI_s rfl rfl rfl ?_
      dsimp only [List.set]
      refine g_goto (tgt := 20) dX6_restore_42 (by decide) ?_
      have e9 := cp_s (k := 193) (o := 0) (j := j) (x := xgi h 194 j) hE (x_fk_g hF (by decide) j)
      rw [Nat.zero_add] at e9
      exact ih (j + 1) _ (by omega) e9 (x_fk_tr hF (x_fk_si _ _ _ _)) (by omega)
set_option maxRecDepth 100000 in
theorem mX6_restore1 {l : Launch} {G : ux_G} {h : ux_H} {S : Ab} (hS : rS true S h) : ux_M l G yX6_restore iX6_restore 3 0 [.ref 192] h (fun v h' => v = some (.int (nI S.2.1)) ∧ xgi h' 192 0 = 0 ∧ rM 193 0 S h' ∧ rK [] h' ∧ x_fN h h') (fun _ _ => False) := by
  refine ux_ent (L' := [some (.ref 192), none]) kX6_restore rfl rfl rfl rfl ?_
  refine g_aload_n dX6_restore_0 rfl ?_
  refine g_iconst (v := 0) dX6_restore_1 (by decide) ?_
  refine g_puti pX6_44 dX6_restore_2 rfl rfl ?_
  refine g_aload_n dX6_restore_5 rfl ?_
  refine g_geti fX6_261 dX6_restore_6 rfl rfl ?_
  refine g_top (y := 1) ((xgi_ne _ _ _ _ _ _ (by decide)).trans hS.1) ?_
  refine g_if_ne (tgt := 18) dX6_restore_9 (by decide) (fun c9 => ?_) (fun c9 => ?_)
  · refine g_iconst (v := 0) dX6_restore_18 (by decide) ?_
    refine s_i (i := 1) dX6_restore_19 rfl rfl rfl rfl ?_
    dsimp only [List.set]
    exact wX6_restore (l := l) (G := G) (h9 := h) (hS.2 rfl).1 (hS.2 rfl).2.1 (hS.2 rfl).2.2 377 0 _ (Nat.zero_le _) (fun m hm => absurd hm (Nat.not_lt_zero _)) (x_fk_rf _ _) (by omega)
  · exact absurd c9 (by decide)
set_option maxRecDepth 100000 in
theorem mX6_restore0 {l : Launch} {G : ux_G} {h : ux_H} {S : Ab} (hS : rS false S h) {A : Ab} {Hs : List Ab} (hM : rM 193 0 A h) (hK : rK Hs h) : ux_M l G yX6_restore iX6_restore 3 0 [.ref 192] h (fun v h' => v = some (.int 0) ∧ xgi h' 192 0 = 1 ∧ rM 193 0 A h' ∧ rK Hs h' ∧ x_fN h h') (fun _ _ => False) := by
  refine ux_ent (L' := [some (.ref 192), none]) kX6_restore rfl rfl rfl rfl ?_
  refine g_aload_n dX6_restore_0 rfl ?_
  refine g_iconst (v := 0) dX6_restore_1 (by decide) ?_
  refine g_puti pX6_44 dX6_restore_2 rfl rfl ?_
  refine g_aload_n dX6_restore_5 rfl ?_
  refine g_geti fX6_261 dX6_restore_6 rfl rfl ?_
  refine g_top (y := 0) ((xgi_ne _ _ _ _ _ _ (by decide)).trans hS.1) ?_
  refine g_if_ne (tgt := 18) dX6_restore_9 (by decide) (fun c9 => ?_) (fun c9 => ?_)
  · exact absurd rfl c9
  · refine g_aload_n dX6_restore_12 rfl ?_
    refine g_iconst (v := 1) dX6_restore_13 (by decide) ?_
    refine f1_V (u' := 0) lX6_107 kX6_raises (mX6_raises) dX6_restore_14 rfl rfl rfl rfl rfl rfl rfl rfl ?_
    refine g_ireturn dX6_restore_17 rfl rfl (by decide) ?_
    exact ⟨rfl, xgi_si _ _ _ _, rM_0t (Or.inl rfl) (rM_0t (Or.inl rfl) hM), rK_0t (by decide) (rK_0t (by decide) hK), x_fN_tr (x_fN_0 _ _) (x_fN_0 _ _)⟩
theorem rIm_0 {L : List Nat} {h : ux_H} {x : Int32} (hL : rIm L h) : rIm L (xsi h 192 0 x) :=
  ⟨(xgi_ne _ _ _ _ _ _ (by decide)).trans hL.1, hL.2.1, hL.2.2.1, fun j v q => (xgi_ne _ _ _ _ _ _ (by omega)).trans (hL.2.2.2 j v q)⟩
set_option maxRecDepth 100000 in
theorem mX6_append {l : Launch} {G : ux_G} {h : ux_H} {a : Int} {L : List Nat} (hL : rIm L h) (ra : -2147483648 ≤ a ∧ a ≤ 2147483647) : ux_M l G yX6_append iX6_append 2 0 [.ref 192, .int (iI a)] h (fun v h' => v = some (.int (if k_append L a = 0 then nI (L.length + 1) else 0)) ∧ xgi h' 192 0 = nI (k_append L a) ∧ rIm (if k_append L a = 0 then L ++ [a.toNat] else L) h' ∧ x_fi h h') (fun _ _ => False) := by
  refine ux_ent (L' := [some (.ref 192), some (.int (iI a))]) kX6_append rfl rfl rfl rfl ?_
  have h70 := hL.2.1
  refine g_aload_n dX6_append_0 rfl ?_
  refine g_iconst (v := 0) dX6_append_1 (by decide) ?_
  refine g_puti pX6_44 dX6_append_2 rfl rfl ?_
  refine g_iload_n dX6_append_5 rfl ?_
  refine g_bipush (v := 32) dX6_append_6 (by decide) ?_
  refine g_bipush (v := 126) dX6_append_8 (by decide) ?_
  refine f1_S (u' := 0) lX6_58 kX6_in (mX6_in) dX6_append_10 rfl rfl rfl rfl rfl rfl ?_
  refine g_if_ne (tgt := 22) dX6_append_13 (by decide) (fun c13 => ?_) (fun c13 => ?_)
  · have q13 := (x_rg (a := a) (lo := 32) (hi := 126) (by decide) (by decide) ra (by decide) (by decide)).mp (xb_n0 c13)
    refine g_aload_n dX6_append_22 rfl ?_
    refine g_geti fX6_228 dX6_append_23 rfl rfl ?_
    refine g_top (y := nI L.length) ((xgi_ne _ _ _ _ _ _ (by decide)).trans hL.1) ?_
    refine g_bipush (v := 70) dX6_append_26 (by decide) ?_
    refine g_icmp_ne (tgt := 37) dX6_append_28 (by decide) (fun c28 => ?_) (fun c28 => ?_)
    · have q28 : ¬ L.length = 70 := fun y => c28 (by rw [y]; rfl)
      refine g_aload_n dX6_append_37 rfl ?_
      refine g_getr (q := 197) fX6_22 dX6_append_38 rfl rfl rfl ?_
      refine g_aload_n dX6_append_41 rfl ?_
      refine g_dup dX6_append_42 rfl ?_
      refine g_geti fX6_228 dX6_append_43 rfl rfl ?_
      refine g_top (y := nI L.length) ((xgi_ne _ _ _ _ _ _ (by decide)).trans hL.1) ?_
      refine g_dup_x1 dX6_append_46 rfl rfl ?_
      refine g_iconst (v := 1) dX6_append_47 (by decide) ?_
      refine g_iadd dX6_append_48 ?_
      refine g_top (nI_1 _) ?_
      refine g_puti pX6_228 dX6_append_49 rfl rfl ?_
      refine g_iload_n dX6_append_52 rfl ?_
      refine g_top (y := nI a.toNat) (iI_get (by omega) (by omega)) ?_
      refine g_iast dX6_append_53 rfl (show L.length < 70 by omega) rfl ?_
      refine g_aload_n dX6_append_54 rfl ?_
      refine g_geti fX6_228 dX6_append_55 rfl rfl ?_
      refine g_top (y := nI (L.length + 1)) ((xgi_ne _ _ _ _ _ _ (by omega)).trans (xgi_si _ _ _ _)) ?_
      refine g_ireturn dX6_append_58 rfl rfl (by decide) ?_
      rw [show k_append L a = 0 from (by unfold k_append; (repeat' split) <;> first | rfl | omega | contradiction)]
      exact ⟨rfl, (xgi_ne _ _ _ _ _ _ (by omega)).trans ((xgi_ne _ _ _ _ _ _ (by decide)).trans (xgi_si _ _ _ _)), rIm_add (rIm_0 hL) (by omega) (by omega), fun c h1 h2 b => by unfold xsi xsv; rw [if_neg (by omega), if_neg (by omega), if_neg (by omega)], fun b h1 h2 => by unfold xsi xsv; rw [if_neg (by omega), if_neg (by omega), if_neg (by omega)]⟩
    · have q28 : L.length = 70 := by
        rw [show (70 : Int32) = nI 70 by decide, nI_iI, nI_iI, iI_eq (by omega) (by omega) (by omega) (by omega)] at c28
        omega
      refine g_aload_n dX6_append_31 rfl ?_
      refine g_iconst (v := 2) dX6_append_32 (by decide) ?_
      refine f1_V (u' := 0) lX6_107 kX6_raises (mX6_raises) dX6_append_33 rfl rfl rfl rfl rfl rfl rfl rfl ?_
      refine g_ireturn dX6_append_36 rfl rfl (by decide) ?_
      rw [show k_append L a = 2 from (by unfold k_append; (repeat' split) <;> first | rfl | omega | contradiction)]
      exact ⟨rfl, xgi_si _ _ _ _, rIm_0 (rIm_0 hL), fun c h1 h2 b => by unfold xsi xsv; rw [if_neg (by omega), if_neg (by omega)], fun b h1 h2 => by unfold xsi xsv; rw [if_neg (by omega), if_neg (by omega)]⟩
  · have q13 := (not_congr (x_rg (a := a) (lo := 32) (hi := 126) (by decide) (by decide) ra (by decide) (by decide))).mp (xb_0.mp c13)
    refine g_aload_n dX6_append_16 rfl ?_
    refine g_iconst (v := 1) dX6_append_17 (by decide) ?_
    refine f1_V (u' := 0) lX6_107 kX6_raises (mX6_raises) dX6_append_18 rfl rfl rfl rfl rfl rfl rfl rfl ?_
    refine g_ireturn dX6_append_21 rfl rfl (by decide) ?_
    rw [show k_append L a = 1 from (by unfold k_append; (repeat' split) <;> first | rfl | omega | contradiction)]
    exact ⟨rfl, xgi_si _ _ _ _, rIm_0 (rIm_0 hL), fun c h1 h2 b => by unfold xsi xsv; rw [if_neg (by omega), if_neg (by omega)], fun b h1 h2 => by unfold xsi xsv; rw [if_neg (by omega), if_neg (by omega)]⟩
set_option maxRecDepth 100000 in
theorem dX6_num {l : Launch} {G : ux_G} {h0 h : ux_H} {L : List Nat} {q r : Nat} {x z : Int} {y1 : Int32} (hL : rIn L h) (hp : xgi h 192 11 = nI q) (hq9 : q < L.length ∧ 48 ≤ s_ch L q ∧ s_ch L q ≤ 57) (K : ux_W l G iX6_number (ux_rm 3 0) (ux_Z G 0 (fun v h' => v = some (.int (iI z)) ∧ xgi h' 192 11 = nI r ∧ x_fa h0 h') (fun _ _ => False)) 7 [some (.ref 192), some (.int y1), some (.int (iI (10 * x + (s_ch L q : Int) - 48)))] [] (xsi h 192 11 (nI (q + 1))) 0) : ux_W l G iX6_number (ux_rm 3 0) (ux_Z G 0 (fun v h' => v = some (.int (iI z)) ∧ xgi h' 192 11 = nI r ∧ x_fa h0 h') (fun _ _ => False)) 7 [some (.ref 192), some (.int y1), some (.int (iI x))] [] (h) 0 := by
  have h70 := hL.1
  obtain ⟨r1, r2, r3⟩ := rIn_ch hL hq9.1
  refine g_aload_n dX6_number_7 rfl ?_
  refine g_getr (q := 197) fX6_22 dX6_number_8 rfl rfl rfl ?_
  refine g_aload_n dX6_number_11 rfl ?_
  refine g_geti fX6_231 dX6_number_12 rfl rfl ?_
  refine g_top hp ?_
  refine g_iald dX6_number_15 rfl (show q < 70 by omega) rfl ?_
  refine g_top r1 ?_
  refine g_bipush (v := 48) dX6_number_16 (by decide) ?_
  refine g_bipush (v := 57) dX6_number_18 (by decide) ?_
  refine f1_S (u' := 0) lX6_58 kX6_in (mX6_in) dX6_number_20 rfl rfl rfl rfl rfl rfl ?_
  refine g_if_eq (tgt := 54) dX6_number_23 (by decide) (fun c23 => ?_) (fun c23 => ?_)
  · exact absurd ((nI_inq (lo := 48) (hi := 57) (by decide) (by omega) (by decide)).mpr hq9.2) (xb_0.mp c23)
  · refine g_bipush (v := 10) dX6_number_26 (by decide) ?_
    refine g_iload_n dX6_number_28 rfl ?_
    refine g_imul dX6_number_29 ?_
    refine g_aload_n dX6_number_30 rfl ?_
    refine g_getr (q := 197) fX6_22 dX6_number_31 rfl rfl rfl ?_
    refine g_aload_n dX6_number_34 rfl ?_
    refine g_dup dX6_number_35 rfl ?_
    refine g_geti fX6_231 dX6_number_36 rfl rfl ?_
    refine g_top hp ?_
    refine g_dup_x1 dX6_number_39 rfl rfl ?_
    refine g_iconst (v := 1) dX6_number_40 (by decide) ?_
    refine g_iadd dX6_number_41 ?_
    refine g_top (nI_1 _) ?_
    refine g_puti pX6_231 dX6_number_42 rfl rfl ?_
    refine g_iald dX6_number_45 rfl (show q < 70 by omega) rfl ?_
    refine g_top (y := nI (s_ch L q)) ((xgi_ne _ _ _ _ _ _ (by omega)).trans r1) ?_
    refine g_iadd dX6_number_46 ?_
    refine g_bipush (v := 48) dX6_number_47 (by decide) ?_
    refine g_isub dX6_number_49 ?_
    refine g_top (y := iI (10 * x + (s_ch L q : Int) - 48)) (by rw [show (10 : Int32) = iI 10 by decide, iI_mul, nI_iI, iI_add, show (48 : Int32) = iI 48 by decide, iI_sub]) ?_
    refine s_i (i := 2) dX6_number_50 rfl rfl rfl rfl ?_
    dsimp only [List.set]
    refine g_goto (tgt := 7) dX6_number_51 (by decide) ?_
    exact K
set_option maxRecDepth 100000 in
theorem eX6_num {l : Launch} {G : ux_G} {h0 h : ux_H} {L : List Nat} {q : Nat} {x : Int} {y1 : Int32} (hL : rIn L h) (hp : xgi h 192 11 = nI q) (hq : q < L.length) (hq9 : ¬ (48 ≤ s_ch L q ∧ s_ch L q ≤ 57)) (hF : x_fa h0 h) : ux_W l G iX6_number (ux_rm 3 0) (ux_Z G 0 (fun v h' => v = some (.int (iI x)) ∧ xgi h' 192 11 = nI q ∧ x_fa h0 h') (fun _ _ => False)) 7 [some (.ref 192), some (.int y1), some (.int (iI x))] [] (h) 0 := by
  have h70 := hL.1
  obtain ⟨r1, r2, r3⟩ := rIn_ch hL hq
  refine g_aload_n dX6_number_7 rfl ?_
  refine g_getr (q := 197) fX6_22 dX6_number_8 rfl rfl rfl ?_
  refine g_aload_n dX6_number_11 rfl ?_
  refine g_geti fX6_231 dX6_number_12 rfl rfl ?_
  refine g_top hp ?_
  refine g_iald dX6_number_15 rfl (show q < 70 by omega) rfl ?_
  refine g_top r1 ?_
  refine g_bipush (v := 48) dX6_number_16 (by decide) ?_
  refine g_bipush (v := 57) dX6_number_18 (by decide) ?_
  refine f1_S (u' := 0) lX6_58 kX6_in (mX6_in) dX6_number_20 rfl rfl rfl rfl rfl rfl ?_
  refine g_if_eq (tgt := 54) dX6_number_23 (by decide) (fun c23 => ?_) (fun c23 => ?_)
  · refine g_iload_n dX6_number_54 rfl ?_
    refine g_ireturn dX6_number_55 rfl rfl (by decide) ?_
    exact ⟨rfl, hp, hF⟩
  · exact absurd ((nI_inq (lo := 48) (hi := 57) (by decide) (by omega) (by decide)).mp (xb_n0 c23)) hq9
set_option maxRecDepth 100000 in
theorem mX6_number {l : Launch} {G : ux_G} {h : ux_H} {L : List Nat} {q : Nat} (hL : rIn L h) (ht : (s_tN L q).1 ≠ -1) (hz : (s_tN L q).2 < L.length) (hnd : ¬ (48 ≤ s_ch L (s_tN L q).2 ∧ s_ch L (s_tN L q).2 ≤ 57)) : ux_M l G yX6_number iX6_number 3 0 [.ref 192, .int (nI q)] h (fun v h' => v = some (.int (iI (s_tN L q).1)) ∧ xgi h' 192 11 = nI (s_tN L q).2 ∧ x_fa h h') (fun _ _ => False) := by
  refine ux_ent (L' := [some (.ref 192), some (.int (nI q)), none]) kX6_number rfl rfl rfl rfl ?_
  refine g_aload_n dX6_number_0 rfl ?_
  refine g_iload_n dX6_number_1 rfl ?_
  refine g_puti pX6_231 dX6_number_2 rfl rfl ?_
  refine g_iconst (v := 0) dX6_number_5 (by decide) ?_
  refine g_top (y := iI 0) rfl ?_
  refine s_i (i := 2) dX6_number_6 rfl rfl rfl rfl ?_
  dsimp only [List.set]
  have hL1 : rIn L (xsi h 192 11 (nI q)) := rIn_fr hL (fun j => by unfold xsi xsv; rw [if_neg (by omega)])
  by_cases q0 : s_is L q 48 48 = true
  · have i0 := is_of q0
    have e := tN_0 q0
    rw [e] at hz hnd ⊢
    refine dX6_num (l := l) (G := G) hL1 (xgi_si _ _ _ _) ⟨i0.1, by omega⟩ ?_
    rw [show 10 * (0 : Int) + (s_ch L q : Int) - 48 = 0 by omega]
    exact eX6_num (l := l) (G := G) (rIn_fr hL1 (fun j => by unfold xsi xsv; rw [if_neg (by omega), if_neg (by omega)])) (xgi_si _ _ _ _) hz hnd (x_fa_tr (x_fa_si _ _) (x_fa_si _ _))
  · by_cases q1 : s_is L q 49 57 = true
    · have i1 := is_of q1
      by_cases q2 : s_is L (q + 1) 48 57 = true
      · have i2 := is_of q2
        have e := tN_2 q1 q2
        rw [e] at hz hnd ⊢
        refine dX6_num (l := l) (G := G) hL1 (xgi_si _ _ _ _) ⟨i1.1, by omega⟩ ?_
        refine dX6_num (l := l) (G := G) (rIn_fr hL1 (fun j => by unfold xsi xsv; rw [if_neg (by omega), if_neg (by omega)])) (xgi_si _ _ _ _) ⟨i2.1, by omega⟩ ?_
        rw [show 10 * (10 * 0 + (s_ch L q : Int) - 48) + (s_ch L (q + 1) : Int) - 48 = 10 * ((s_ch L q : Int) - 48) + ((s_ch L (q + 1) : Int) - 48) by omega]
        exact eX6_num (l := l) (G := G) (rIn_fr hL1 (fun j => by unfold xsi xsv; rw [if_neg (by omega), if_neg (by omega), if_neg (by omega)])) (xgi_si _ _ _ _) hz hnd (x_fa_tr (x_fa_si _ _) (x_fa_tr (x_fa_si _ _) (x_fa_si _ _)))
      · have e := tN_1 q1 q2
        rw [e] at hz hnd ⊢
        refine dX6_num (l := l) (G := G) hL1 (xgi_si _ _ _ _) ⟨i1.1, by omega⟩ ?_
        rw [show 10 * (0 : Int) + (s_ch L q : Int) - 48 = (s_ch L q : Int) - 48 by omega]
        exact eX6_num (l := l) (G := G) (rIn_fr hL1 (fun j => by unfold xsi xsv; rw [if_neg (by omega), if_neg (by omega)])) (xgi_si _ _ _ _) hz hnd (x_fa_tr (x_fa_si _ _) (x_fa_si _ _))
    · exact absurd (by rw [tN_n q0 q1]) ht
