/-! THE REFERENCE: changes that are kept; limits, sizes, capacities; nothing left. -/
/-- what changes leave as it was, with what was thrown and without -/
def x_fT (h h' : ux_H) : Prop := (∀ c, c < 192 ∨ c = 194 ∨ c = 197 ∨ 201 < c → ∀ j, h' c j = h c j) ∧ ∀ j, j = 0 ∨ j = 3 ∨ j = 8 ∨ j = 9 ∨ j = 10 → h' 192 j = h 192 j
def x_fN (h h' : ux_H) : Prop := (∀ c, c < 192 ∨ c = 194 ∨ c = 197 ∨ 201 < c → ∀ j, h' c j = h c j) ∧ ∀ j, j = 3 ∨ j = 8 ∨ j = 9 ∨ j = 10 → h' 192 j = h 192 j
theorem x_fT_rf (h : ux_H) : x_fT h h := ⟨fun _ _ _ => rfl, fun _ _ => rfl⟩
theorem x_fT_tr {h h1 h2 : ux_H} (a : x_fT h h1) (b : x_fT h1 h2) : x_fT h h2 := ⟨fun c hc j => (b.1 c hc j).trans (a.1 c hc j), fun j hj => (b.2 j hj).trans (a.2 j hj)⟩
theorem x_fN_rf (h : ux_H) : x_fN h h := ⟨fun _ _ _ => rfl, fun _ _ => rfl⟩
theorem x_fN_tr {h h1 h2 : ux_H} (a : x_fN h h1) (b : x_fN h1 h2) : x_fN h h2 := ⟨fun c hc j => (b.1 c hc j).trans (a.1 c hc j), fun j hj => (b.2 j hj).trans (a.2 j hj)⟩
theorem x_fN_T {h h1 : ux_H} (a : x_fT h h1) : x_fN h h1 := ⟨a.1, fun j hj => a.2 j (Or.inr hj)⟩
theorem x_fT_m {h h1 : ux_H} (a : x_fm h h1) : x_fT h h1 := ⟨fun c hc j => a c (by omega) j, fun j _ => a 192 (by decide) j⟩
theorem x_fT_k {h h1 : ux_H} {k : Nat} (a : x_fk k h h1) (hk : k = 193 ∨ k = 195 ∨ k = 196 ∨ (198 ≤ k ∧ k ≤ 201)) : x_fT h h1 := ⟨fun c hc j => a c (by omega) j, fun j _ => a 192 (by omega) j⟩
theorem x_fT_c {h h1 : ux_H} (a : x_fc h h1) : x_fT h h1 := ⟨fun c hc j => a.1 c (by omega) (by omega) j, fun j hj => a.2 j (by omega)⟩
theorem x_fT_g {h h1 : ux_H} (a : x_fT h h1) : xgi h1 192 0 = xgi h 192 0 := by unfold xgi; rw [a.2 0 (Or.inl rfl)]
theorem x_fN_0 (h : ux_H) (x : Int32) : x_fN h (xsi h 192 0 x) := ⟨fun c hc j => by unfold xsi xsv; rw [if_neg (by omega)], fun j hj => by unfold xsi xsv; rw [if_neg (by omega)]⟩
theorem x_fT_si (h : ux_H) {j : Nat} (x : Int32) (hj : j = 6 ∨ 11 ≤ j) : x_fT h (xsi h 192 j x) := ⟨fun c hc b => by unfold xsi xsv; rw [if_neg (by omega)], fun b hb => by unfold xsi xsv; rw [if_neg (by omega)]⟩
theorem rM_0t {A : Ab} {h : ux_H} {c j : Nat} {x : Int32} (hc : c = 193 ∨ c = 194 ∨ c = 195) (hM : rM c 0 A h) : rM c 0 A (xsi h 192 j x) := rM_fr hM fun a => by unfold xsi xsv; rw [if_neg (by omega)]
theorem rK_0t {Hs : List Ab} {h : ux_H} {j : Nat} {x : Int32} (hj : j ≠ 6) (hK : rK Hs h) : rK Hs (xsi h 192 j x) := rK_fr hK (fun a => by unfold xsi xsv; rw [if_neg (by omega)]) (by unfold xsi xsv; rw [if_neg (by omega)])
theorem rK_m {Hs : List Ab} {h h' : ux_H} (hK : rK Hs h) (hF : x_fm h h') : rK Hs h' := rK_fr hK (fun a => hF 196 (by decide) a) (hF 192 (by decide) 6)
theorem rK_k {Hs : List Ab} {h h' : ux_H} {k : Nat} (hK : rK Hs h) (hF : x_fk k h h') (hk : k ≠ 192 ∧ k ≠ 196) : rK Hs h' := rK_fr hK (fun a => hF 196 (by omega) a) (hF 192 (by omega) 6)
theorem rM_c9 {A : Ab} {h h' : ux_H} {c : Nat} (hM : rM c 0 A h) (hF : x_fc h h') (hc : c = 193 ∨ c = 194 ∨ c = 195) : rM c 0 A h' := rM_fr hM fun a => hF.1 c (by omega) (by omega) a
theorem rM_k9 {A : Ab} {h h' : ux_H} {c k : Nat} (hM : rM c 0 A h) (hF : x_fk k h h') (hc : c ≠ k) : rM c 0 A h' := rM_fr hM fun a => hF c hc a
/-- how the reference ends a call that may change the school -/
def Q6 (K : Nat) (R : Int32) (A A2 : Ab) (Hs : List Ab) (h : ux_H) (v : Option Value) (h' : ux_H) : Prop := v = some (.int (if K = 0 then R else 0)) ∧ xgi h' 192 0 = nI K ∧ rM 193 0 (if K = 0 then A2 else A) h' ∧ rK (if K = 0 then (A :: Hs).take 8 else Hs) h' ∧ x_fN h h'
theorem q6_no {K c : Nat} {R : Int32} {A A2 : Ab} {Hs : List Ab} {h h1 : ux_H} (hk : K = c) (hc : c ≠ 0) (hM : rM 193 0 A h1) (hK : rK Hs h1) (hF : x_fN h h1) : Q6 K R A A2 Hs h (some (.int 0)) (xsi h1 192 0 (nI c)) := by
  subst hk
  refine ⟨by rw [if_neg hc], xgi_si _ _ _ _, ?_, ?_, x_fN_tr hF (x_fN_0 _ _)⟩
  · rw [if_neg hc]; exact rM_0t (by decide) hM
  · rw [if_neg hc]; exact rK_0t (by decide) hK
theorem q6_ok {K : Nat} {R : Int32} {A A2 : Ab} {Hs : List Ab} {h h1 : ux_H} (hk : K = 0) (hM : rM 193 0 A2 h1) (hK : rK ((A :: Hs).take 8) h1) (hF : x_fT (xsi h 192 0 0) h1) : Q6 K R A A2 Hs h (some (.int R)) h1 := by
  subst hk
  refine ⟨by rw [if_pos rfl], ?_, ?_, ?_, x_fN_tr (x_fN_0 _ _) (x_fN_T hF)⟩
  · rw [x_fT_g hF]; exact xgi_si _ _ _ _
  · rw [if_pos rfl]; exact hM
  · rw [if_pos rfl]; exact hK
set_option maxRecDepth 100000 in
theorem vX6_keepsBehind {l : Launch} {G : ux_G} {A A2 : Ab} {Hs : List Ab} {h0 h9 : ux_H} (hM : rM 195 0 A2 h0) (i1 : A2.1 ≤ 8) (i2 : A2.2.1 ≤ 40) (hK : rK ((A :: Hs).take 8) h0) (h90 : x_fT h9 h0) : ∀ (n : Nat) (j : Nat) (h : ux_H), j ≤ 376 → (∀ m, m < j → xgi h 193 (0 + m) = xgi h0 195 m) → x_fk 193 h0 h → 376 - j < n → ux_W l G iX6_keepsBehind (ux_rm 4 0) (ux_Z G 0 (fun v h' => v = none ∧ rM 193 0 A2 h' ∧ rK ((A :: Hs).take 8) h' ∧ x_fT h9 h') (fun _ _ => False)) 47 [some (.ref 192), some (.int (nI j)), none] [] (h) 0 := by
  intro n
  induction n with
  | zero => intro j h hj hE hF hn; exact absurd hn (Nat.not_lt_zero _)
  | succ n ih =>
    intro j h hj hE hF hn
    refine g_iload_n dX6_keepsBehind_47 rfl ?_
    refine g_sipush (v := 376) dX6_keepsBehind_48 (by decide) ?_
    refine g_icmp_ge (tgt := 72) dX6_keepsBehind_51 (by decide) (fun c51 => ?_) (fun c51 => ?_)
    · have e : j = 376 := by rw [show (376 : Int32) = nI 376 by decide] at c51; have := xlt_i c51 (by omega) (by omega); omega
      subst e
      refine g_return dX6_keepsBehind_72 rfl (by decide) ?_
      exact ⟨rfl, rM_cp0 hM i1 i2 (fun m hm => by have := hE m hm; rwa [Nat.zero_add] at this), rK_k hK hF (by decide), x_fT_tr h90 (x_fT_k hF (by decide))⟩
    · have hlt : j < 376 := by rw [show (376 : Int32) = nI 376 by decide] at c51; exact xnl_i c51 (by omega) (by omega)
      refine g_aload_n dX6_keepsBehind_54 rfl ?_
      refine g_getr (q := 193) fX6_9 dX6_keepsBehind_55 rfl rfl rfl ?_
      refine g_iload_n dX6_keepsBehind_58 rfl ?_
      refine g_aload_n dX6_keepsBehind_59 rfl ?_
      refine g_getr (q := 195) fX6_16 dX6_keepsBehind_60 rfl rfl rfl ?_
      refine g_iload_n dX6_keepsBehind_63 rfl ?_
      refine g_iald dX6_keepsBehind_64 rfl (show j < 376 by omega) rfl ?_
      refine g_iast dX6_keepsBehind_65 rfl (show j < 376 by omega) rfl ?_
      refine s_inc (v := nI (j + 1)) dX6_keepsBehind_66 rfl nI_s rfl rfl rfl ?_
      dsimp only [List.set]
      refine g_goto (tgt := 47) dX6_keepsBehind_69 (by decide) ?_
      have e9 := cp_s (k := 193) (o := 0) (j := j) (x := xgi h 195 j) hE (x_fk_g hF (by decide) j)
      rw [Nat.zero_add] at e9
      exact ih (j + 1) _ (by omega) e9 (x_fk_tr hF (x_fk_si _ _ _ _)) (by omega)
set_option maxRecDepth 100000 in
theorem wX6_keepsBehind {l : Launch} {G : ux_G} {A A2 : Ab} {Hs : List Ab} {h0 : ux_H} (hM : rM 193 0 A2 h0) (hA : rM 195 0 A h0) (i1 : A.1 ≤ 8 ∧ A2.1 ≤ 8) (i2 : A.2.1 ≤ 40 ∧ A2.2.1 ≤ 40) (hK : rK Hs h0) : ∀ (n : Nat) (j : Nat) (h : ux_H), j ≤ 376 → (∀ m, m < j → xgi h 193 m = xgi h0 195 m ∧ xgi h 195 m = xgi h0 193 m) → (∀ m, j ≤ m → xgi h 193 m = xgi h0 193 m ∧ xgi h 195 m = xgi h0 195 m) → (∀ c, c ≠ 193 → c ≠ 195 → ∀ b, h c b = h0 c b) → 376 - j < n → ux_W l G iX6_keepsBehind (ux_rm 4 0) (ux_Z G 0 (fun v h' => v = none ∧ rM 193 0 A2 h' ∧ rK ((A :: Hs).take 8) h' ∧ x_fT h0 h') (fun _ _ => False)) 2 [some (.ref 192), some (.int (nI j)), none] [] (h) 0 := by
  intro n
  induction n with
  | zero => intro j h hj hE hL hF hn; exact absurd hn (Nat.not_lt_zero _)
  | succ n ih =>
    intro j h hj hE hL hF hn
    refine g_iload_n dX6_keepsBehind_2 rfl ?_
    refine g_sipush (v := 376) dX6_keepsBehind_3 (by decide) ?_
    refine g_icmp_ge (tgt := 41) dX6_keepsBehind_6 (by decide) (fun c6 => ?_) (fun c6 => ?_)
    · have e : j = 376 := by rw [show (376 : Int32) = nI 376 by decide] at c6; have := xlt_i c6 (by omega) (by omega); omega
      subst e
      have hM2 : rM 193 0 A h := rM_cp0 (c := 195) hA i1.1 i2.1 (fun m hm => (hE m hm).1)
      have hA2 : rM 195 0 A2 h := rM_cp0 (c := 193) hM i1.2 i2.2 (fun m hm => (hE m hm).2)
      have hK2 : rK Hs h := rK_fr hK (fun a => hF 196 (by decide) (by decide) a) (hF 192 (by decide) (by decide) 6)
      have hFT : x_fT h0 h := ⟨fun c hc j => hF c (by omega) (by omega) j, fun j _ => hF 192 (by decide) (by decide) j⟩
      refine g_aload_n dX6_keepsBehind_41 rfl ?_
      refine q_V (u' := 0) lX6_68 kX6_changes (mX6_changes (A := A) (Hs := Hs) hM2 i1.1 i2.1 hK2) dX6_keepsBehind_42 rfl rfl rfl rfl rfl rfl rfl rfl (fun v h42 hq => ?_) (fun _ _ q => q.elim)
      obtain ⟨rfl, hK3, hF3⟩ := hq
      dsimp only [Option.toList, List.cons_append, List.nil_append]
      refine g_iconst (v := 0) dX6_keepsBehind_45 (by decide) ?_
      refine s_i (i := 1) dX6_keepsBehind_46 rfl rfl rfl rfl ?_
      dsimp only [List.set]
      exact vX6_keepsBehind (l := l) (G := G) (h0 := h42) (h9 := h0) (rM_c9 hA2 hF3 (by decide)) i1.2 i2.2 hK3 (x_fT_tr hFT (x_fT_c hF3)) 377 0 h42 (Nat.zero_le _) (fun m hm => absurd hm (Nat.not_lt_zero _)) (x_fk_rf _ _) (by omega)
    · have hlt : j < 376 := by rw [show (376 : Int32) = nI 376 by decide] at c6; exact xnl_i c6 (by omega) (by omega)
      refine g_aload_n dX6_keepsBehind_9 rfl ?_
      refine g_getr (q := 193) fX6_9 dX6_keepsBehind_10 rfl rfl rfl ?_
      refine g_iload_n dX6_keepsBehind_13 rfl ?_
      refine g_iald dX6_keepsBehind_14 rfl (show j < 376 by omega) rfl ?_
      refine s_i (i := 2) dX6_keepsBehind_15 rfl rfl rfl rfl ?_
      dsimp only [List.set]
      refine g_aload_n dX6_keepsBehind_16 rfl ?_
      refine g_getr (q := 193) fX6_9 dX6_keepsBehind_17 rfl rfl rfl ?_
      refine g_iload_n dX6_keepsBehind_20 rfl ?_
      refine g_aload_n dX6_keepsBehind_21 rfl ?_
      refine g_getr (q := 195) fX6_16 dX6_keepsBehind_22 rfl rfl rfl ?_
      refine g_iload_n dX6_keepsBehind_25 rfl ?_
      refine g_iald dX6_keepsBehind_26 rfl (show j < 376 by omega) rfl ?_
      refine g_iast dX6_keepsBehind_27 rfl (show j < 376 by omega) rfl ?_
      refine g_aload_n dX6_keepsBehind_28 rfl ?_
      refine g_getr (q := 195) fX6_16 dX6_keepsBehind_29 rfl rfl rfl ?_
      refine g_iload_n dX6_keepsBehind_32 rfl ?_
      refine g_iload_n dX6_keepsBehind_33 rfl ?_
      refine g_iast dX6_keepsBehind_34 rfl (show j < 376 by omega) rfl ?_
      refine s_inc (v := nI (j + 1)) dX6_keepsBehind_35 rfl nI_s rfl rfl rfl ?_
      dsimp only [List.set]
      refine g_goto (tgt := 2) dX6_keepsBehind_38 (by decide) ?_
      refine g_fg 2 rfl ?_
      dsimp only [List.set]
      refine ih (j + 1) _ (by omega) (fun m hm => ?_) (fun m hm => ?_) (fun c h1 h2 b => ?_) (by omega)
      · rw [xgi_ne _ _ _ _ _ _ (by omega), xgi_sif _ _ _ _ 195 m, xgi_ne _ _ _ _ 195 m (by omega), xgi_sif _ _ _ _ 193 m]
        by_cases q : m = j
        · subst q; rw [if_pos ⟨rfl, rfl⟩, if_pos ⟨rfl, rfl⟩]; exact ⟨(hL m (Nat.le_refl _)).2, (hL m (Nat.le_refl _)).1⟩
        · rw [if_neg (by omega), if_neg (by omega)]; exact hE m (by omega)
      · rw [xgi_ne _ _ _ _ _ _ (by omega), xgi_ne _ _ _ _ _ _ (by omega), xgi_ne _ _ _ _ _ _ (by omega), xgi_ne _ _ _ _ _ _ (by omega)]; exact hL m (by omega)
      · rw [← hF c h1 h2 b]
        unfold xsi xsv
        rw [if_neg (by omega), if_neg (by omega)]
set_option maxRecDepth 100000 in
theorem mX6_keepsBehind {l : Launch} {G : ux_G} {h : ux_H} {A A2 : Ab} {Hs : List Ab} (hM : rM 193 0 A2 h) (hA : rM 195 0 A h) (i1 : A.1 ≤ 8 ∧ A2.1 ≤ 8) (i2 : A.2.1 ≤ 40 ∧ A2.2.1 ≤ 40) (hK : rK Hs h) : ux_M l G yX6_keepsBehind iX6_keepsBehind 4 0 [.ref 192] h (fun v h' => v = none ∧ rM 193 0 A2 h' ∧ rK ((A :: Hs).take 8) h' ∧ x_fT h h') (fun _ _ => False) := by
  refine ux_ent (L' := [some (.ref 192), none, none]) kX6_keepsBehind rfl rfl rfl rfl ?_
  refine g_iconst (v := 0) dX6_keepsBehind_0 (by decide) ?_
  refine s_i (i := 1) dX6_keepsBehind_1 rfl rfl rfl rfl ?_
  dsimp only [List.set]
  exact wX6_keepsBehind (l := l) (G := G) (h0 := h) hM hA i1 i2 hK 377 0 h (Nat.zero_le _) (fun m hm => absurd hm (Nat.not_lt_zero _)) (fun _ _ => ⟨rfl, rfl⟩) (fun _ _ _ _ => rfl) (by omega)
set_option maxRecDepth 100000 in
theorem mX6_sets {l : Launch} {G : ux_G} {h : ux_H} {f j : Nat} {v : Int} {A : Ab} {Hs : List Ab} (hM : rM 193 0 A h) (i1 : A.1 ≤ 8) (i2 : A.2.1 ≤ 40) (hK : rK Hs h) (hin : a_in A f j) : ux_M l G yX6_sets iX6_sets 4 0 [.ref 192, .int (nI (m_at f j)), .int (iI v)] h (fun v9 h' => v9 = some (.int (iI (aF A f j))) ∧ rM 193 0 (aU A f j v) h' ∧ rK ((A :: Hs).take 8) h' ∧ x_fT h h') (fun _ _ => False) := by
  refine ux_ent (L' := [some (.ref 192), some (.int (nI (m_at f j))), some (.int (iI v)), none]) kX6_sets rfl rfl rfl rfl ?_
  have lt9 : m_at f j < 376 := m_at_lt (b_in_of hin i1 i2)
  refine g_aload_n dX6_sets_0 rfl ?_
  refine q_V (u' := 0) lX6_68 kX6_changes (mX6_changes hM i1 i2 hK) dX6_sets_1 rfl rfl rfl rfl rfl rfl rfl rfl (fun v h1 hq => ?_) (fun _ _ q => q.elim)
  obtain ⟨rfl, hK1, hF1⟩ := hq
  have hM1 := rM_c9 hM hF1 (Or.inl rfl)
  dsimp only [Option.toList, List.cons_append, List.nil_append]
  refine g_aload_n dX6_sets_4 rfl ?_
  refine g_getr (q := 193) fX6_9 dX6_sets_5 rfl rfl rfl ?_
  refine g_iload_n dX6_sets_8 rfl ?_
  refine g_iald dX6_sets_9 rfl lt9 rfl ?_
  refine g_top (y := iI (aF A f j)) (by have := hM1.2.2 f j hin; rwa [Nat.zero_add] at this) ?_
  refine s_i (i := 3) dX6_sets_10 rfl rfl rfl rfl ?_
  dsimp only [List.set]
  refine g_aload_n dX6_sets_11 rfl ?_
  refine g_getr (q := 193) fX6_9 dX6_sets_12 rfl rfl rfl ?_
  refine g_iload_n dX6_sets_15 rfl ?_
  refine g_iload_n dX6_sets_16 rfl ?_
  refine g_iast dX6_sets_17 rfl lt9 rfl ?_
  refine g_iload_n dX6_sets_18 rfl ?_
  refine g_ireturn dX6_sets_19 rfl rfl (by decide) ?_
  exact ⟨rfl, rM_aU hM1 i1 i2 hin rfl, rK_m hK1 (x_fm_si _ _ _), x_fT_tr (x_fT_c hF1) (x_fT_m (x_fm_si _ _ _))⟩
set_option maxRecDepth 100000 in
theorem vX6_empties {l : Launch} {G : ux_G} {h0 : ux_H} : ∀ (n : Nat) (j : Nat) (h : ux_H), j ≤ 6 → (∀ m, m < j → xgi h 193 (4 + m) = 20 ∧ xgi h 193 (10 + m) = 30) → (∀ m, m < 4 → xgi h 193 m = 0) → x_fm h0 h → 6 - j < n → ux_W l G iX6_empties (ux_rm 1 0) (ux_Z G 0 (fun v h' => v = none ∧ rM 193 0 s_new h' ∧ x_fm h0 h') (fun _ _ => False)) 24 [some (.ref 192), some (.int (nI j))] [] (h) 0 := by
  intro n
  induction n with
  | zero => intro j h hj hE hL hF hn; exact absurd hn (Nat.not_lt_zero _)
  | succ n ih =>
    intro j h hj hE hL hF hn
    refine g_iload_n dX6_empties_24 rfl ?_
    refine g_bipush (v := 6) dX6_empties_25 (by decide) ?_
    refine g_icmp_ge (tgt := 57) dX6_empties_27 (by decide) (fun c27 => ?_) (fun c27 => ?_)
    · have e : j = 6 := by rw [show (6 : Int32) = nI 6 by decide] at c27; have := xlt_i c27 (by omega) (by omega); omega
      subst e
      refine g_return dX6_empties_57 rfl (by decide) ?_
      refine ⟨rfl, ⟨hL 0 (by decide), hL 1 (by decide), fun f b hb => ?_⟩, hF⟩
      rw [Nat.zero_add]
      rcases hb with q | q | q | q
      · obtain ⟨rfl, q⟩ := q; rcases q with q | q <;> subst q; exact hL 2 (by decide); exact hL 3 (by decide)
      · exact absurd q.2.2 (Nat.not_lt_zero _)
      · obtain q1 | q1 : f = 6 ∨ f = 7 := by omega
        · subst q1; exact (hE b q.2.2).1
        · subst q1; exact (hE b q.2.2).2
      · exact absurd q.2.2 (Nat.not_lt_zero _)
    · have hlt : j < 6 := by rw [show (6 : Int32) = nI 6 by decide] at c27; exact xnl_i c27 (by omega) (by omega)
      refine g_aload_n dX6_empties_30 rfl ?_
      refine g_getr (q := 193) fX6_9 dX6_empties_31 rfl rfl rfl ?_
      refine g_iconst (v := 4) dX6_empties_34 (by decide) ?_
      refine g_iload_n dX6_empties_35 rfl ?_
      refine g_iadd dX6_empties_36 ?_
      refine g_top (y := nI (4 + j)) (by rw [show (4 : Int32) = nI 4 by decide, nI_add]) ?_
      refine g_bipush (v := 20) dX6_empties_37 (by decide) ?_
      refine g_iast dX6_empties_39 rfl (show 4 + j < 376 by omega) rfl ?_
      refine g_aload_n dX6_empties_40 rfl ?_
      refine g_getr (q := 193) fX6_9 dX6_empties_41 rfl rfl rfl ?_
      refine g_bipush (v := 10) dX6_empties_44 (by decide) ?_
      refine g_iload_n dX6_empties_46 rfl ?_
      refine g_iadd dX6_empties_47 ?_
      refine g_top (y := nI (10 + j)) (by rw [show (10 : Int32) = nI 10 by decide, nI_add]) ?_
      refine g_bipush (v := 30) dX6_empties_48 (by decide) ?_
      refine g_iast dX6_empties_50 rfl (show 10 + j < 376 by omega) rfl ?_
      refine s_inc (v := nI (j + 1)) dX6_empties_51 rfl nI_s rfl rfl rfl ?_
      dsimp only [List.set]
      refine g_goto (tgt := 24) dX6_empties_54 (by decide) ?_
      refine ih (j + 1) _ (by omega) (fun m hm => ?_) (fun m hm => ?_) (x_fm_tr hF (x_fm_tr (x_fm_si _ _ _) (x_fm_si _ _ _))) (by omega)
      · rw [xgi_sif, xgi_sif, xgi_sif, xgi_sif]
        by_cases q : m = j
        · subst q; rw [if_neg (by omega), if_pos ⟨rfl, rfl⟩, if_pos ⟨rfl, rfl⟩]; exact ⟨rfl, rfl⟩
        · rw [if_neg (by omega), if_neg (by omega), if_neg (by omega), if_neg (by omega)]; exact hE m (by omega)
      · rw [xgi_ne _ _ _ _ _ _ (by omega), xgi_ne _ _ _ _ _ _ (by omega)]; exact hL m hm
set_option maxRecDepth 100000 in
theorem wX6_empties {l : Launch} {G : ux_G} {h0 : ux_H} : ∀ (n : Nat) (j : Nat) (h : ux_H), j ≤ 376 → (∀ m, m < j → xgi h 193 m = 0) → x_fm h0 h → 376 - j < n → ux_W l G iX6_empties (ux_rm 1 0) (ux_Z G 0 (fun v h' => v = none ∧ rM 193 0 s_new h' ∧ x_fm h0 h') (fun _ _ => False)) 2 [some (.ref 192), some (.int (nI j))] [] (h) 0 := by
  intro n
  induction n with
  | zero => intro j h hj hE hF hn; exact absurd hn (Nat.not_lt_zero _)
  | succ n ih =>
    intro j h hj hE hF hn
    refine g_iload_n dX6_empties_2 rfl ?_
    refine g_sipush (v := 376) dX6_empties_3 (by decide) ?_
    refine g_icmp_ge (tgt := 22) dX6_empties_6 (by decide) (fun c6 => ?_) (fun c6 => ?_)
    · have e : j = 376 := by rw [show (376 : Int32) = nI 376 by decide] at c6; have := xlt_i c6 (by omega) (by omega); omega
      subst e
      refine g_iconst (v := 0) dX6_empties_22 (by decide) ?_
      refine s_i (i := 1) dX6_empties_23 rfl rfl rfl rfl ?_
      dsimp only [List.set]
      exact vX6_empties (l := l) (G := G) (h0 := h0) 7 0 h (Nat.zero_le _) (fun m hm => absurd hm (Nat.not_lt_zero _)) (fun m hm => hE m (by omega)) hF (by omega)
    · have hlt : j < 376 := by rw [show (376 : Int32) = nI 376 by decide] at c6; exact xnl_i c6 (by omega) (by omega)
      refine g_aload_n dX6_empties_9 rfl ?_
      refine g_getr (q := 193) fX6_9 dX6_empties_10 rfl rfl rfl ?_
      refine g_iload_n dX6_empties_13 rfl ?_
      refine g_iconst (v := 0) dX6_empties_14 (by decide) ?_
      refine g_iast dX6_empties_15 rfl (show j < 376 by omega) rfl ?_
      refine s_inc (v := nI (j + 1)) dX6_empties_16 rfl nI_s rfl rfl rfl ?_
      dsimp only [List.set]
      refine g_goto (tgt := 2) dX6_empties_19 (by decide) ?_
      exact ih (j + 1) _ (by omega) (fun m hm => by rw [xgi_sif]; split; rfl; exact hE m (by omega)) (x_fm_tr hF (x_fm_si _ _ _)) (by omega)
set_option maxRecDepth 100000 in
theorem mX6_empties {l : Launch} {G : ux_G} {h : ux_H}  : ux_M l G yX6_empties iX6_empties 1 0 [.ref 192] h (fun v h' => v = none ∧ rM 193 0 s_new h' ∧ x_fm h h') (fun _ _ => False) := by
  refine ux_ent (L' := [some (.ref 192), none]) kX6_empties rfl rfl rfl rfl ?_
  refine g_iconst (v := 0) dX6_empties_0 (by decide) ?_
  refine s_i (i := 1) dX6_empties_1 rfl rfl rfl rfl ?_
  dsimp only [List.set]
  exact wX6_empties (l := l) (G := G) (h0 := h) 377 0 h (Nat.zero_le _) (fun m hm => absurd hm (Nat.not_lt_zero _)) (x_fm_rf h) (by omega)
set_option maxRecDepth 100000 in
theorem mX6_clear {l : Launch} {G : ux_G} {h : ux_H} {A : Ab} (hM : rM 193 0 A h) : ux_M l G yX6_clear iX6_clear 3 0 [.ref 192] h (fun v h' => v = some (.int (nI A.2.1)) ∧ xgi h' 192 0 = 0 ∧ rM 193 0 s_new h' ∧ rK [] h' ∧ x_fN h h') (fun _ _ => False) := by
  refine ux_ent (L' := [some (.ref 192), none]) kX6_clear rfl rfl rfl rfl ?_
  refine g_aload_n dX6_clear_0 rfl ?_
  refine g_iconst (v := 0) dX6_clear_1 (by decide) ?_
  refine g_puti pX6_44 dX6_clear_2 rfl rfl ?_
  have hM0 := rM_0t (j := 0) (x := 0) (Or.inl rfl) hM
  refine g_aload_n dX6_clear_5 rfl ?_
  refine f1_V (u' := 0) lX6_54 kX6_lessons (mX6_lessons hM0) dX6_clear_6 rfl rfl rfl rfl rfl rfl rfl rfl ?_
  refine s_i (i := 1) dX6_clear_9 rfl rfl rfl rfl ?_
  dsimp only [List.set]
  refine g_aload_n dX6_clear_10 rfl ?_
  refine q_V (u' := 0) lX6_41 kX6_empties (mX6_empties) dX6_clear_11 rfl rfl rfl rfl rfl rfl rfl rfl (fun v h11 hq => ?_) (fun _ _ q => q.elim)
  obtain ⟨rfl, hM1, hF1⟩ := hq
  dsimp only [Option.toList, List.cons_append, List.nil_append]
  refine g_aload_n dX6_clear_14 rfl ?_
  refine g_iconst (v := 0) dX6_clear_15 (by decide) ?_
  refine g_puti pX6_65 dX6_clear_16 rfl rfl ?_
  refine g_iload_n dX6_clear_19 rfl ?_
  refine g_ireturn dX6_clear_20 rfl rfl (by decide) ?_
  refine ⟨rfl, ?_, rM_0t (Or.inl rfl) hM1, ⟨xgi_si _ _ _ _, by decide, fun B hB => absurd hB (by simp), fun k B hk => absurd hk (by simp)⟩, x_fN_tr (x_fN_0 _ _) (x_fN_tr (x_fN_T (x_fT_m hF1)) (x_fN_T (x_fT_si _ _ (Or.inl rfl))))⟩
  rw [xgi_ne _ _ _ _ _ _ (by decide)]
  exact (show xgi h11 192 0 = xgi (xsi h 192 0 0) 192 0 by unfold xgi; rw [hF1 192 (by decide) 0]).trans (xgi_si _ _ _ _)
