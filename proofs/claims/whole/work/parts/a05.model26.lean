/-! THE REFERENCE: the input is read and done. -/
theorem fe_end {L : List Nat} {n p : Nat} (h0 : L.length ≠ 0) (h : ¬ p < L.length) : s_fe L n p = -1 := by rw [s_fe_n n h]; exact if_neg h0
/-- what reading leaves as it was -/
def x_frd (h h' : ux_H) : Prop := (∀ c, c < 192 ∨ c = 194 ∨ 201 < c → ∀ j, h' c j = h c j) ∧ ∀ j, j = 3 ∨ j = 10 → h' 192 j = h 192 j
theorem x_frd_rf (h : ux_H) : x_frd h h := ⟨fun _ _ _ => rfl, fun _ _ => rfl⟩
theorem x_frd_tr {h h1 h2 : ux_H} (a : x_frd h h1) (b : x_frd h1 h2) : x_frd h h2 := ⟨fun c p j => (b.1 c p j).trans (a.1 c p j), fun j p => (b.2 j p).trans (a.2 j p)⟩
theorem x_frd_si (h : ux_H) {j : Nat} (x : Int32) (hj : j ≠ 3 ∧ j ≠ 10) : x_frd h (xsi h 192 j x) := ⟨fun c p b => by unfold xsi xsv; rw [if_neg (by omega)], fun b p => by unfold xsi xsv; rw [if_neg (by omega)]⟩
theorem x_frd_T {h h1 : ux_H} (a : x_fT h h1) : x_frd h h1 := ⟨fun c p j => a.1 c (by omega) j, fun j p => a.2 j (by omega)⟩
theorem x_frd_d {h h1 : ux_H} (a : x_fd h h1) : x_frd h h1 := ⟨fun c p j => a.1 c (by omega) (by omega) j, fun j p => a.2 j (by omega) (by omega)⟩
theorem x_frd_a {h h1 : ux_H} (a : x_fa h h1) : x_frd h h1 := x_frd_d (x_fd_a a)
def QRd (A : Ab) (L : List Nat) (Hs : List Ab) (h : ux_H) (v : Option Value) (h' : ux_H) : Prop :=
  (∃ z, v = some (.int z) ∧ (k_read A L = 0 → ∃ A' n, s_tell L 70 A 0 0 = some (A', n) ∧ z = nI n ∧ rM 193 0 A' h' ∧ rK ((A :: Hs).take 8) h')) ∧ xgi h' 192 0 = nI (k_read A L) ∧ (k_read A L ≠ 0 → rM 193 0 A h' ∧ rK Hs h') ∧ rIm [] h' ∧ x_frd h h' ∧ xgi h' 192 9 = if k_read A L = 1 then iI (s_fe L 70 0) else xgi h 192 9
theorem rIm_nil {h : ux_H} (e : xgi h 192 8 = 0) : rIm [] h := ⟨e, by decide, fun v hv => absurd hv (by simp), fun j v hj => absurd hj (by simp)⟩
set_option maxRecDepth 100000 in
theorem wX6_rd1 {l : Launch} {G : ux_G} {Q9 : Option Value → ux_H → Prop} {X9 : String → ux_H → Prop} {h0 : ux_H} {L : List Nat} (hL0 : rIm L h0) (K : ∀ (h : ux_H) (b : Bool) (q : Nat), xgi h 192 11 = nI q → x_fa h0 h → q ≤ L.length → ((b = false ∧ s_fe L 70 0 = (q : Int)) ∨ (b = true ∧ s_fe L 70 0 = -1)) → ux_W l G iX6_read (ux_rm 14 0) (ux_Z G 0 Q9 X9) 38 [some (.ref 192), some (.int (if b then 1 else 0)), none, none, none, none] [] h 0) : ∀ (n : Nat) (m p : Nat) (h : ux_H), xgi h 192 11 = nI (s_tE L p).2 → p < L.length → x_fa h0 h → s_fe L (m + 1) p = s_fe L 70 0 → L.length ≤ p + m + 1 → m < n → ux_W l G iX6_read (ux_rm 14 0) (ux_Z G 0 Q9 X9) 15 [some (.ref 192), some (.int (if (s_tE L p).1 = true then 1 else 0)), none, none, none, none] [] (h) 0 := by
  intro n
  induction n with
  | zero => intro m p h hp hpl hF hfe hm hn; exact absurd hn (Nat.not_lt_zero _)
  | succ n ih =>
    intro m p h hp hpl hF hfe hm hn
    have h70 := hL0.2.1
    have le8 := (s_tE_le (L := L) (p := p) (Nat.le_of_lt hpl)).2.1
    refine g_iload_n dX6_read_15 rfl ?_
    refine g_if_eq (tgt := 38) dX6_read_16 (by decide) (fun c16 => ?_) (fun c16 => ?_)
    · have q16 := xb_0.mp c16
      rw [s_fe_f hpl q16] at hfe
      have := K h false (s_tE L p).2 hp hF (s_tE_le (Nat.le_of_lt hpl)).2.1 (Or.inl ⟨rfl, hfe.symm⟩)
      rw [if_neg q16]
      exact this
    · have q16 := xb_n0 c16
      rw [s_fe_s hpl q16] at hfe
      have le9 := (s_tE_le (Nat.le_of_lt hpl)).2.2 q16
      refine g_aload_n dX6_read_19 rfl ?_
      refine g_geti fX6_231 dX6_read_20 rfl rfl ?_
      refine g_top hp ?_
      refine g_aload_n dX6_read_23 rfl ?_
      refine g_geti fX6_228 dX6_read_24 rfl rfl ?_
      refine g_top (rIm_fa hL0 hF).1 ?_
      refine g_icmp_ge (tgt := 38) dX6_read_27 (by decide) (fun c27 => ?_) (fun c27 => ?_)
      · have q27 : ¬ (s_tE L p).2 < L.length := fun y => absurd (xlt_i (a := L.length) (b := (s_tE L p).2) c27 (by omega) (by omega)) (by omega)
        rw [fe_end (by omega) q27] at hfe
        have := K h true (s_tE L p).2 hp hF le8 (Or.inr ⟨rfl, hfe.symm⟩)
        rw [if_pos q16]
        exact this
      · have q27 : (s_tE L p).2 < L.length := xnl_i (a := L.length) (b := (s_tE L p).2) c27 (by omega) (by omega)
        refine g_aload_n dX6_read_30 rfl ?_
        refine q_V (u' := 0) lX6_247 kX6_isEntry (mX6_isEntry (p := (s_tE L p).2) (rIm_fa hL0 hF) hp le8) dX6_read_31 rfl rfl rfl rfl rfl rfl rfl rfl (fun v h31 hq => ?_) (fun _ _ q => q.elim)
        obtain ⟨rfl, hp2, hF2⟩ := hq
        dsimp only [Option.toList, List.cons_append, List.nil_append]
        refine s_i (i := 1) dX6_read_34 rfl rfl rfl rfl ?_
        dsimp only [List.set]
        refine g_goto (tgt := 15) dX6_read_35 (by decide) ?_
        exact ih (m - 1) (s_tE L p).2 _ hp2 q27 (x_fa_tr hF hF2) (by rw [← hfe]; congr 1; omega) (by omega) (by omega)
set_option maxRecDepth 100000 in
theorem wX6_rd3 {l : Launch} {G : ux_G} {h9 h0 : ux_H} {A : Ab} {L : List Nat} {Hs : List Ab} {x1 x2 x3 x4 : Int32} (hA : rM 195 0 A h0) (i1 : A.1 ≤ 8) (i2 : A.2.1 ≤ 40) (hK : rK Hs h0) (hI0 : xgi h0 192 8 = 0) (hfe : s_fe L 70 0 = -1) (ht : s_tell L 70 A 0 0 = none) (h90 : x_frd h9 h0) (e9 : xgi h0 192 9 = xgi h9 192 9) : ∀ (n : Nat) (j : Nat) (h : ux_H), j ≤ 376 → (∀ m, m < j → xgi h 193 (0 + m) = xgi h0 195 m) → x_fk 193 h0 h → 376 - j < n → ux_W l G iX6_read (ux_rm 14 0) (ux_Z G 0 (QRd A L Hs h9) (fun _ _ => False)) 122 [some (.ref 192), some (.int x1), some (.int x2), some (.int x3), some (.int x4), some (.int (nI j))] [] (h) 0 := by
  intro n
  induction n with
  | zero => intro j h hj hE hF hn; exact absurd hn (Nat.not_lt_zero _)
  | succ n ih =>
    intro j h hj hE hF hn
    refine g_iload dX6_read_122 rfl ?_
    refine g_sipush (v := 376) dX6_read_124 (by decide) ?_
    refine g_icmp_ge (tgt := 150) dX6_read_127 (by decide) (fun c127 => ?_) (fun c127 => ?_)
    · have e : j = 376 := by rw [show (376 : Int32) = nI 376 by decide] at c127; have := xlt_i c127 (by omega) (by omega); omega
      subst e
      refine g_aload_n dX6_read_150 rfl ?_
      refine g_iconst (v := 2) dX6_read_151 (by decide) ?_
      refine f1_V (u' := 0) lX6_107 kX6_raises (mX6_raises) dX6_read_152 rfl rfl rfl rfl rfl rfl rfl rfl ?_
      refine g_ireturn dX6_read_155 rfl rfl (by decide) ?_
      have ek : k_read A L = 2 := by unfold k_read; rw [if_neg (by omega), if_pos ht]
      refine ⟨⟨_, rfl, fun y => absurd (ek.symm.trans y) (by decide)⟩, by rw [ek]; exact xgi_si _ _ _ _, fun _ => ⟨rM_0t (Or.inl rfl) (rM_cp0 hA i1 i2 (fun m hm => by have := hE m hm; rwa [Nat.zero_add] at this)), rK_0t (by decide) (rK_k hK hF (by decide))⟩, rIm_nil ((xgi_ne _ _ _ _ _ _ (by decide)).trans ((x_fk_g hF (by decide) 8).trans hI0)), x_frd_tr h90 (x_frd_tr (x_frd_T (x_fT_k hF (Or.inl rfl))) (x_frd_si _ _ (by decide))), ?_⟩
      rw [ek, if_neg (by decide), xgi_ne _ _ _ _ _ _ (by decide), x_fk_g hF (by decide) 9]
      exact e9
    · have hlt : j < 376 := by rw [show (376 : Int32) = nI 376 by decide] at c127; exact xnl_i c127 (by omega) (by omega)
      refine g_aload_n dX6_read_130 rfl ?_
      refine g_getr (q := 193) fX6_9 dX6_read_131 rfl rfl rfl ?_
      refine g_iload dX6_read_134 rfl ?_
      refine g_aload_n dX6_read_136 rfl ?_
      refine g_getr (q := 195) fX6_16 dX6_read_137 rfl rfl rfl ?_
      refine g_iload dX6_read_140 rfl ?_
      refine g_iald dX6_read_142 rfl (show j < 376 by omega) rfl ?_
      refine g_iast dX6_read_143 rfl (show j < 376 by omega) rfl ?_
      refine s_inc (v := nI (j + 1)) dX6_read_144 rfl nI_s rfl rfl rfl ?_
      dsimp only [List.set]
      refine g_goto (tgt := 122) dX6_read_147 (by decide) ?_
      have e9 := cp_s (k := 193) (o := 0) (j := j) (x := xgi h 195 j) hE (x_fk_g hF (by decide) j)
      rw [Nat.zero_add] at e9
      exact ih (j + 1) _ (by omega) e9 (x_fk_tr hF (x_fk_si _ _ _ _)) (by omega)
set_option maxRecDepth 100000 in
theorem tX6_rd105 {l : Launch} {G : ux_G} {h9 h : ux_H} {A : Ab} {L : List Nat} {Hs : List Ab} {x1 x2 x3 x4 x5 : Int32} (hA : rM 195 0 A h) (i1 : A.1 ≤ 8) (i2 : A.2.1 ≤ 40) (hK : rK Hs h) (hI0 : xgi h 192 8 = 0) (hfe : s_fe L 70 0 = -1) (ht : s_tell L 70 A 0 0 = none) (h90 : x_frd h9 h) (e9 : xgi h 192 9 = xgi h9 192 9) (hn : xgi h 192 0 ≠ 0) : ux_W l G iX6_read (ux_rm 14 0) (ux_Z G 0 (QRd A L Hs h9) (fun _ _ => False)) 105 [some (.ref 192), some (.int x1), some (.int x2), some (.int x3), some (.int x4), some (.int x5)] [] (h) 0 := by
  refine g_aload_n dX6_read_105 rfl ?_
  refine g_geti fX6_44 dX6_read_106 rfl rfl ?_
  refine g_if_ne (tgt := 119) dX6_read_109 (by decide) (fun c109 => ?_) (fun c109 => ?_)
  · refine g_iconst (v := 0) dX6_read_119 (by decide) ?_
    refine s_iw dX6_read_120 rfl rfl rfl ?_
    dsimp only [List.set]
    exact wX6_rd3 (l := l) (G := G) (h9 := h9) (h0 := h) hA i1 i2 hK hI0 hfe ht h90 e9 377 0 h (Nat.zero_le _) (fun m hm => absurd hm (Nat.not_lt_zero _)) (x_fk_rf _ _) (by decide)
  · exact absurd c109 hn
set_option maxRecDepth 100000 in
theorem tX6_rd78 {l : Launch} {G : ux_G} {h9 h : ux_H} {A : Ab} {L : List Nat} {Hs : List Ab} {x1 x2 x3 x4 x5 : Int32} (hA : rM 195 0 A h) (i1 : A.1 ≤ 8) (i2 : A.2.1 ≤ 40) (hK : rK Hs h) (hI0 : xgi h 192 8 = 0) (hfe : s_fe L 70 0 = -1) (ht : s_tell L 70 A 0 0 = none) (h90 : x_frd h9 h) (e9 : xgi h 192 9 = xgi h9 192 9) (hn : xgi h 192 0 ≠ 0) : ux_W l G iX6_read (ux_rm 14 0) (ux_Z G 0 (QRd A L Hs h9) (fun _ _ => False)) 78 [some (.ref 192), some (.int x1), some (.int x2), some (.int x3), some (.int x4), some (.int x5)] [] (h) 0 := by
  refine g_iload dX6_read_78 rfl ?_
  refine g_iload_n dX6_read_80 rfl ?_
  refine g_icmp_ge (tgt := 105) dX6_read_81 (by decide) (fun c81 => ?_) (fun c81 => ?_)
  · exact tX6_rd105 (l := l) (G := G) hA i1 i2 hK hI0 hfe ht h90 e9 hn
  · refine g_aload_n dX6_read_84 rfl ?_
    refine g_geti fX6_44 dX6_read_85 rfl rfl ?_
    refine g_if_ne (tgt := 105) dX6_read_88 (by decide) (fun c88 => ?_) (fun c88 => ?_)
    · exact tX6_rd105 (l := l) (G := G) hA i1 i2 hK hI0 hfe ht h90 e9 hn
    · exact absurd c88 hn
set_option maxRecDepth 100000 in
theorem wX6_rd2 {l : Launch} {G : ux_G} {h9 h0 : ux_H} {A : Ab} {L : List Nat} {Hs : List Ab} {P : Nat} {x1 x2 : Int32} (hI0 : Inv P A) (hP : P + 13000 ≤ 10000000) (hL0 : rIn L h0) (hA0 : rM 195 0 A h0) (hK0 : rK Hs h0) (h80 : xgi h0 192 8 = 0) (h90 : x_frd h9 h0) (e90 : xgi h0 192 9 = xgi h9 192 9) (hfe0 : s_fe L 70 0 = -1) : ∀ (n : Nat) (j p : Nat) (B : Ab) (h : ux_H), j ≤ 70 → rM 193 0 B h → Inv (P + 172 * j) B → InvF B → x_fd h0 h → xgi h 192 0 = 0 → s_fe L (70 - j) p = -1 → s_tell L (70 - j) B p j = s_tell L 70 A 0 0 → p ≤ L.length → j ≤ p → 70 - j < n → ux_W l G iX6_read (ux_rm 14 0) (ux_Z G 0 (QRd A L Hs h9) (fun _ _ => False)) 78 [some (.ref 192), some (.int x1), some (.int x2), some (.int (nI L.length)), some (.int (nI j)), some (.int (nI p))] [] (h) 0 := by
  intro n
  induction n with
  | zero => intro j p B h hj hM hI hJ hF h0t hfe htl hpl hjp hn; exact absurd hn (Nat.not_lt_zero _)
  | succ n ih =>
    intro j p B h hj hM hI hJ hF h0t hfe htl hpl hjp hn
    have h70 := hL0.1
    have hL : rIn L h := rIn_fr hL0 (fun a => hF.1 197 (by decide) (by decide) a)
    have sf : s_fin L = 0 ∨ s_fin L = -1 := by unfold s_fin; split; exact Or.inl rfl; exact Or.inr rfl
    refine g_iload dX6_read_78 rfl ?_
    refine g_iload_n dX6_read_80 rfl ?_
    refine g_icmp_ge (tgt := 105) dX6_read_81 (by decide) (fun c81 => ?_) (fun c81 => ?_)
    · have q81 : ¬ p < L.length := fun y => absurd (xlt_i (a := L.length) (b := p) c81 (by omega) (by omega)) (by omega)
      rw [s_tell_n (70 - j) q81] at htl
      refine g_aload_n dX6_read_105 rfl ?_
      refine g_geti fX6_44 dX6_read_106 rfl rfl ?_
      refine g_if_ne (tgt := 119) dX6_read_109 (by decide) (fun c109 => ?_) (fun c109 => ?_)
      · exact absurd h0t c109
      · refine g_aload_n dX6_read_112 rfl ?_
        refine q_V (u' := 0) lX6_116 kX6_keepsBehind (mX6_keepsBehind (A := A) (A2 := B) hM (rM_fr hA0 (fun a => hF.1 195 (by decide) (by decide) a)) ⟨hI0.1, hI.1⟩ ⟨hI0.2.1, hI.2.1⟩ (rK_fr hK0 (fun a => hF.1 196 (by decide) (by decide) a) (hF.2 6 (by decide) (by decide)))) dX6_read_113 rfl rfl rfl rfl rfl rfl rfl rfl (fun v h113 hq => ?_) (fun _ _ q => q.elim)
        obtain ⟨rfl, hM3, hK3, hF3⟩ := hq
        dsimp only [Option.toList, List.cons_append, List.nil_append]
        refine g_iload dX6_read_116 rfl ?_
        refine g_ireturn dX6_read_118 rfl rfl (by decide) ?_
        have ek : k_read A L = 0 := by unfold k_read; rw [if_neg (by omega), if_neg (by rw [← htl]; exact fun y => by cases y)]
        refine ⟨⟨_, rfl, fun _ => ⟨B, j, htl.symm, rfl, hM3, hK3⟩⟩, by rw [ek]; exact (x_fT_g hF3).trans h0t, fun y => absurd ek y, rIm_nil ?_, x_frd_tr h90 (x_frd_tr (x_frd_d hF) (x_frd_T hF3)), ?_⟩
        · rw [show xgi h113 192 8 = xgi h0 192 8 by unfold xgi; rw [hF3.2 8 (by decide), hF.2 8 (by decide) (by decide)]]; exact h80
        · rw [ek, if_neg (by decide), show xgi h113 192 9 = xgi h0 192 9 by unfold xgi; rw [hF3.2 9 (by decide), hF.2 9 (by decide) (by decide)]]; exact e90
    · have q81 : p < L.length := xnl_i (a := L.length) (b := p) c81 (by omega) (by omega)
      have hj70 : j < 70 := by omega
      obtain ⟨m9, hm9⟩ : ∃ m9, 70 - j = m9 + 1 := ⟨69 - j, by omega⟩
      rw [hm9] at hfe htl
      have hok : (s_tE L p).1 = true := Decidable.byContradiction fun y => by
        rw [s_fe_f q81 y] at hfe
        omega
      rw [s_fe_s q81 hok] at hfe
      refine g_aload_n dX6_read_84 rfl ?_
      refine g_geti fX6_44 dX6_read_85 rfl rfl ?_
      refine g_if_ne (tgt := 105) dX6_read_88 (by decide) (fun c88 => ?_) (fun c88 => ?_)
      · exact absurd h0t c88
      · refine s_inc (v := nI (j + 1)) dX6_read_91 rfl nI_s rfl rfl rfl ?_
        dsimp only [List.set]
        refine g_aload_n dX6_read_94 rfl ?_
        refine g_iload dX6_read_95 rfl ?_
        refine q_V (u' := 0) lX6_250 kX6_does (mX6_does (p := p) hL hM hI hJ (by omega) q81 hok h0t) dX6_read_97 rfl rfl rfl rfl rfl rfl rfl rfl (fun v h97 hq => ?_) (fun _ _ q => q.elim)
        obtain ⟨rfl, hF2, hr1, hr2⟩ := hq
        have hF3 := x_fd_tr hF hF2
        dsimp only [Option.toList, List.cons_append, List.nil_append]
        refine s_iw dX6_read_100 rfl rfl rfl ?_
        dsimp only [List.set]
        refine g_goto (tgt := 78) dX6_read_102 (by decide) ?_
        by_cases qr : s_ref B L p = true
        · have hne := hr1 qr
          have htn : s_tell L 70 A 0 0 = none := by rw [← htl]; exact s_tell_f q81 (fun y => y.2 qr)
          exact tX6_rd78 (l := l) (G := G) (h9 := h9) (A := A) (Hs := Hs) (rM_fr hA0 (fun a => hF3.1 195 (by decide) (by decide) a)) hI0.1 hI0.2.1 (rK_fr hK0 (fun a => hF3.1 196 (by decide) (by decide) a) (hF3.2 6 (by decide) (by decide))) ((show xgi h97 192 8 = xgi h0 192 8 by unfold xgi; rw [hF3.2 8 (by decide) (by decide)]).trans h80) hfe0 htn (x_frd_tr h90 (x_frd_d hF3)) ((show xgi h97 192 9 = xgi h0 192 9 by unfold xgi; rw [hF3.2 9 (by decide) (by decide)]).trans e90) hne
        · obtain ⟨h0t2, hM2⟩ := hr2 qr
          obtain ⟨d1, d2⟩ := do_ok (p := p) hI hJ (by omega) q81 hok qr
          rw [s_tell_s q81 hok qr] at htl
          exact ih (j + 1) (s_tE L p).2 (s_do B L p) h97 (by omega) hM2 (by rw [show P + 172 * (j + 1) = P + 172 * j + 172 by omega]; exact d1) d2 hF3 h0t2 (by rw [show 70 - (j + 1) = m9 by omega]; exact hfe) (by rw [show 70 - (j + 1) = m9 by omega]; exact htl) (s_tE_le (Nat.le_of_lt q81)).2.1 (by have := (s_tE_le (Nat.le_of_lt q81)).2.2 hok; omega) (by omega)
set_option maxRecDepth 100000 in
theorem kX6_rd {l : Launch} {G : ux_G} {h h2 : ux_H} {A : Ab} {P : Nat} {L : List Nat} {Hs : List Ab} {b : Bool} {q : Nat} (hL : rIm L h) (hM : rM 193 0 A h) (hK : rK Hs h) (hI : Inv P A) (hJ : InvF A) (hP : P + 13000 ≤ 10000000) (hLw : rIm L (xsi (xsi h 192 0 0) 192 11 0)) (hMw : rM 193 0 A (xsi (xsi h 192 0 0) 192 11 0)) (hKw : rK Hs (xsi (xsi h 192 0 0) 192 11 0)) (hq : xgi h2 192 11 = nI q) (hFa : x_fa (xsi (xsi h 192 0 0) 192 11 0) h2) (hql : q ≤ L.length) (hfe : (b = false ∧ s_fe L 70 0 = (q : Int)) ∨ (b = true ∧ s_fe L 70 0 = -1)) : ux_W l G iX6_read (ux_rm 14 0) (ux_Z G 0 (QRd A L Hs h) (fun _ _ => False)) 38 [some (.ref 192), some (.int (if b then 1 else 0)), none, none, none, none] [] h2 0 := by
  have h70 := hL.2.1
  refine g_aload_n dX6_read_38 rfl ?_
  refine g_geti fX6_231 dX6_read_39 rfl rfl ?_
  refine g_top hq ?_
  refine s_i (i := 2) dX6_read_42 rfl rfl rfl rfl ?_
  dsimp only [List.set]
  refine g_aload_n dX6_read_43 rfl ?_
  refine g_geti fX6_228 dX6_read_44 rfl rfl ?_
  refine g_top (rIm_fa hLw hFa).1 ?_
  refine s_i (i := 3) dX6_read_47 rfl rfl rfl rfl ?_
  dsimp only [List.set]
  refine g_aload_n dX6_read_48 rfl ?_
  refine g_iconst (v := 0) dX6_read_49 (by decide) ?_
  refine g_puti pX6_228 dX6_read_50 rfl rfl ?_
  refine g_iload_n dX6_read_53 rfl ?_
  refine g_if_ne (tgt := 68) dX6_read_54 (by decide) (fun c54 => ?_) (fun c54 => ?_)
  · have qb : b = true := by cases b with | true => rfl | false => exact absurd rfl c54
    have hfe : s_fe L 70 0 = -1 := by rcases hfe with y | y; rw [qb] at y; exact absurd y.1 (by decide); exact y.2
    have hM3 : rM 193 0 A (xsi h2 192 8 0) := rM_0t (Or.inl rfl) (rM_a hMw hFa)
    have hK3 : rK Hs (xsi h2 192 8 0) := rK_0t (by decide) (rK_fr hKw (fun a => hFa 196 a (by omega)) (hFa 192 6 (by decide)))
    refine g_aload_n dX6_read_68 rfl ?_
    refine q_V (u' := 0) lX6_110 kX6_keepsAhead (mX6_keepsAhead) dX6_read_69 rfl rfl rfl rfl rfl rfl rfl rfl (fun v h69 hq => ?_) (fun _ _ q => q.elim)
    obtain ⟨rfl, hE1, hF1⟩ := hq
    dsimp only [Option.toList, List.cons_append, List.nil_append]
    refine g_iconst (v := 0) dX6_read_72 (by decide) ?_
    refine g_top (y := nI 0) rfl ?_
    refine s_iw dX6_read_73 rfl rfl rfl ?_
    dsimp only [List.set]
    refine g_iconst (v := 0) dX6_read_75 (by decide) ?_
    refine g_top (y := nI 0) rfl ?_
    refine s_iw dX6_read_76 rfl rfl rfl ?_
    dsimp only [List.set]
    have g2 : ∀ j, j ≠ 11 → j ≠ 8 → xgi h69 192 j = xgi (xsi h 192 0 0) 192 j := fun j a b => by rw [x_fk_g hF1 (by decide) j, xgi_ne _ _ _ _ _ _ (by omega), x_fa_g hFa (by omega), xgi_ne _ _ _ _ _ _ (by omega)]
    refine wX6_rd2 (l := l) (G := G) (h9 := h) (h0 := h69) (A := A) hI hP ⟨hL.2.1, hL.2.2.1, fun j v hj => ?_⟩ (rM_cp0 (c := 193) (c' := 195) hM3 hI.1 hI.2.1 hE1) (rK_k hK3 hF1 (by decide)) ((x_fk_g hF1 (by decide) 8).trans (xgi_si _ _ _ _)) ?_ ((g2 9 (by decide) (by decide)).trans (xgi_ne _ _ _ _ _ _ (by decide))) hfe 71 0 0 A h69 (by decide) (rM_k9 hM3 hF1 (by decide)) (by rw [Nat.mul_zero, Nat.add_zero]; exact hI) hJ (x_fd_rf _) ((g2 0 (by decide) (by decide)).trans (xgi_si _ _ _ _)) hfe rfl (Nat.zero_le _) (Nat.le_refl _) (by decide)
    · rw [x_fk_g hF1 (by decide) j, xgi_ne _ _ _ _ _ _ (by omega), x_fa_g hFa (by omega), xgi_ne _ _ _ _ _ _ (by omega), xgi_ne _ _ _ _ _ _ (by omega)]; exact hL.2.2.2 j v hj
    · exact x_frd_tr (x_frd_si _ _ (by decide)) (x_frd_tr (x_frd_si _ _ (by decide)) (x_frd_tr (x_frd_a hFa) (x_frd_tr (x_frd_si _ _ (by decide)) (x_frd_T (x_fT_k hF1 (by decide))))))
  · have qb : b = false := by cases b with | false => rfl | true => exact absurd c54 (by decide)
    have hfe : s_fe L 70 0 = (q : Int) := by rcases hfe with y | y; exact y.2; rw [qb] at y; exact absurd y.1 (by decide)
    refine g_aload_n dX6_read_57 rfl ?_
    refine g_iload_n dX6_read_58 rfl ?_
    refine g_puti pX6_25 dX6_read_59 rfl rfl ?_
    refine g_aload_n dX6_read_62 rfl ?_
    refine g_iconst (v := 1) dX6_read_63 (by decide) ?_
    refine f1_V (u' := 0) lX6_107 kX6_raises (mX6_raises) dX6_read_64 rfl rfl rfl rfl rfl rfl rfl rfl ?_
    refine g_ireturn dX6_read_67 rfl rfl (by decide) ?_
    have ek : k_read A L = 1 := by unfold k_read; rw [if_pos (by omega)]
    refine ⟨⟨_, rfl, fun y => absurd (ek.symm.trans y) (by decide)⟩, by rw [ek]; exact xgi_si _ _ _ _, fun _ => ⟨rM_0t (Or.inl rfl) (rM_0t (Or.inl rfl) (rM_0t (Or.inl rfl) (rM_a hMw hFa))), rK_0t (by decide) (rK_0t (by decide) (rK_0t (by decide) (rK_fr hKw (fun a => hFa 196 a (by omega)) (hFa 192 6 (by decide)))))⟩, rIm_nil ((xgi_ne _ _ _ _ _ _ (by decide)).trans ((xgi_ne _ _ _ _ _ _ (by decide)).trans (xgi_si _ _ _ _))), x_frd_tr (x_frd_si _ _ (by decide)) (x_frd_tr (x_frd_si _ _ (by decide)) (x_frd_tr (x_frd_a hFa) (x_frd_tr (x_frd_si _ _ (by decide)) (x_frd_tr (x_frd_si _ _ (by decide)) (x_frd_si _ _ (by decide)))))), ?_⟩
    rw [ek, if_pos rfl, xgi_ne _ _ _ _ _ _ (by decide), xgi_si, hfe, nI_iI]
set_option maxRecDepth 100000 in
theorem mX6_read {l : Launch} {G : ux_G} {h : ux_H} {A : Ab} {P : Nat} {L : List Nat} {Hs : List Ab} (hL : rIm L h) (hM : rM 193 0 A h) (hK : rK Hs h) (hI : Inv P A) (hJ : InvF A) (hP : P + 13000 ≤ 10000000) : ux_M l G yX6_read iX6_read 14 0 [.ref 192] h (QRd A L Hs h) (fun _ _ => False) := by
  refine ux_ent (L' := [some (.ref 192), none, none, none, none, none]) kX6_read rfl rfl rfl rfl ?_
  obtain ⟨i1, i2, i3, i4, i5, i6⟩ := id hI
  have h70 := hL.2.1
  refine g_aload_n dX6_read_0 rfl ?_
  refine g_iconst (v := 0) dX6_read_1 (by decide) ?_
  refine g_puti pX6_44 dX6_read_2 rfl rfl ?_
  refine g_aload_n dX6_read_5 rfl ?_
  refine g_iconst (v := 0) dX6_read_6 (by decide) ?_
  refine g_puti pX6_231 dX6_read_7 rfl rfl ?_
  have hLw : rIm L (xsi (xsi h 192 0 0) 192 11 0) := ⟨(xgi_ne _ _ _ _ _ _ (by decide)).trans ((xgi_ne _ _ _ _ _ _ (by decide)).trans hL.1), hL.2.1, hL.2.2.1, fun j v hj => (xgi_ne _ _ _ _ _ _ (by omega)).trans ((xgi_ne _ _ _ _ _ _ (by omega)).trans (hL.2.2.2 j v hj))⟩
  have hMw : rM 193 0 A (xsi (xsi h 192 0 0) 192 11 0) := rM_0t (Or.inl rfl) (rM_0t (Or.inl rfl) hM)
  have hKw : rK Hs (xsi (xsi h 192 0 0) 192 11 0) := rK_0t (by decide) (rK_0t (by decide) hK)
  refine g_aload_n dX6_read_10 rfl ?_
  refine q_V (u' := 0) lX6_247 kX6_isEntry (mX6_isEntry (p := 0) hLw (xgi_si _ _ _ _) (Nat.zero_le _)) dX6_read_11 rfl rfl rfl rfl rfl rfl rfl rfl (fun v h11 hq => ?_) (fun _ _ q => q.elim)
  obtain ⟨rfl, hp2, hF2⟩ := hq
  dsimp only [Option.toList, List.cons_append, List.nil_append]
  refine s_i (i := 1) dX6_read_14 rfl rfl rfl rfl ?_
  dsimp only [List.set]
  by_cases q0 : L.length = 0
  · have e0 : s_tE L 0 = (false, 0) := tE_n (is_no fun y => by omega) (is_no fun y => by omega) (is_no fun y => by omega)
    rw [e0] at hp2 ⊢
    have K := fun (h2 : ux_H) (b : Bool) (q : Nat) (hq : xgi h2 192 11 = nI q) (hFa : x_fa (xsi (xsi h 192 0 0) 192 11 0) h2) (hql : q ≤ L.length) (hfe : (b = false ∧ s_fe L 70 0 = (q : Int)) ∨ (b = true ∧ s_fe L 70 0 = -1)) => kX6_rd (l := l) (G := G) hL hM hK hI hJ hP hLw hMw hKw hq hFa hql hfe
    refine g_iload_n dX6_read_15 rfl ?_
    refine g_if_eq (tgt := 38) dX6_read_16 (by decide) (fun _ => ?_) (fun c => absurd rfl c)
    exact K h11 false 0 hp2 hF2 (Nat.zero_le _) (Or.inl ⟨rfl, by rw [s_fe_n 70 (by omega)]; exact if_pos q0⟩)
  · exact wX6_rd1 (l := l) (G := G) (h0 := (xsi (xsi h 192 0 0) 192 11 0)) hLw (fun h2 b q hq hFa hql hfe => kX6_rd (l := l) (G := G) hL hM hK hI hJ hP hLw hMw hKw hq hFa hql hfe) 70 69 0 h11 hp2 (by omega) hF2 rfl (by omega) (by decide)
