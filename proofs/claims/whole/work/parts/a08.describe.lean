/-! THE REFERENCE: describe. -/
def rW (W : List Nat) (h : ux_H) : Prop := ∀ (j v : Nat), W[j]? = some v → xgi h 201 j = nI v
theorem rW_add {W : List Nat} {h : ux_H} (hW : rW W h) {n : Nat} (hn : W.length = n) {x : Int32} {c : Nat} (hx : x = nI c) : rW (W ++ [c]) (xsi h 201 n x) := by
  intro j v hv
  subst hn; subst hx
  rw [List.getElem?_append] at hv
  split at hv
  · next q => rw [xgi_ne _ _ _ _ _ _ (by omega)]; exact hW j v hv
  · next q =>
    have e : j = W.length := by
      rcases Nat.lt_or_ge (j - W.length) 1 with z | z
      · omega
      · rw [List.getElem?_eq_none (by simpa using z)] at hv; cases hv
    subst e
    simp at hv
    subst hv
    exact xgi_si _ _ _ _
theorem rW_k {W : List Nat} {h h' : ux_H} {k : Nat} (hW : rW W h) (hF : x_fk k h h') (hk : k ≠ 201) : rW W h' := fun j v q => (x_fk_g hF (by omega) j).trans (hW j v q)
theorem n48 {z : Int} (h1 : 0 ≤ z) (h2 : z ≤ 1000) : (48 : Int32) + iI z = nI (48 + z.toNat) := by
  rw [show (48 : Int32) = iI 48 by decide, iI_add, nI_iI]; congr 1; omega
theorem nq10 {z : Int} (h1 : 0 ≤ z) (h2 : z ≤ 1000) : iI z / 10 = iI (z / 10) := by
  rw [show (10 : Int32) = iI 10 by decide, iI_div (by omega) (by omega) (by omega) (by omega), Int.tdiv_eq_ediv_of_nonneg (by omega)]
theorem nr10 {z : Int} (h1 : 0 ≤ z) (h2 : z ≤ 1000) : iI z - iI z / 10 * 10 = iI (z % 10) := by
  rw [nq10 h1 h2, show (10 : Int32) = iI 10 by decide, iI_mul, iI_sub]; congr 1; omega
set_option maxRecDepth 100000 in
theorem sX6_desc {l : Launch} {G : ux_G} {h : ux_H} {Z : ux_Zt} {A : Ab} {P : Nat} {a b : Int} {W : List Nat} {n k : Nat} {y4 : Int32} (hM : rM 193 0 A h) (hI : Inv P A) (hW : rW W h) (hn : W.length = n) (n18 : n ≤ 15) (hk : k < 4) (ha : 0 ≤ a ∧ a < A.2.1) (K : ∀ h1 : ux_H, x_fk 201 h h1 → rW (W ++ [cK k] ++ [48 + (aF A (9 + k) a.toNat).toNat]) h1 → ux_W l G iX6_describe (ux_rm 4 0) Z 84 [some (.ref 192), some (.int (iI a)), some (.int (iI b)), some (.int (nI (n + 2))), some (.int y4), some (.int (nI (k + 1)))] [] h1 0) : ux_W l G iX6_describe (ux_rm 4 0) (Z) 84 [some (.ref 192), some (.int (iI a)), some (.int (iI b)), some (.int (nI n)), some (.int y4), some (.int (nI k))] [] (h) 0 := by
  obtain ⟨i1, i2, i3, i4, i5, i6⟩ := id hI
  refine g_iload dX6_describe_84 rfl ?_
  refine g_iconst (v := 4) dX6_describe_86 (by decide) ?_
  refine g_icmp_ge (tgt := 133) dX6_describe_87 (by decide) (fun c87 => ?_) (fun c87 => ?_)
  · exact absurd ((nI_leI (a := 4) (b := k) (by omega) (by omega)).mp c87) (by omega)
  · refine g_aload_n dX6_describe_90 rfl ?_
    refine g_getr (q := 201) fX6_38 dX6_describe_91 rfl rfl rfl ?_
    refine g_iload_n dX6_describe_94 rfl ?_
    refine s_inc (v := nI (n + 1)) dX6_describe_95 rfl (nI_1 _) rfl rfl rfl ?_
    dsimp only [List.set]
    refine g_cspr (i := 5) hk rfl dX6_describe_98 dX6_describe_100 rfl dX6_describe_102 rfl (Nat.le_of_ble_eq_true rfl) ?_
    refine g_iast dX6_describe_105 rfl (show n < 20 by omega) rfl ?_
    have hM1 := rM_k9 hM (x_fk_si 201 n (nI (cK k)) (h := h)) (by decide)
    have il := i6 a.toNat (by omega)
    have fk : 0 ≤ aF A (9 + k) a.toNat ∧ aF A (9 + k) a.toNat ≤ 1000 := by
      have e : k = 0 ∨ k = 1 ∨ k = 2 ∨ k = 3 := by omega
      rcases e with rfl | rfl | rfl | rfl <;> simp only [Nat.reduceAdd] <;> omega
    refine g_aload_n dX6_describe_106 rfl ?_
    refine g_getr (q := 201) fX6_38 dX6_describe_107 rfl rfl rfl ?_
    refine g_iload_n dX6_describe_110 rfl ?_
    refine s_inc (v := nI (n + 2)) dX6_describe_111 rfl (nI_1 _) rfl rfl rfl ?_
    dsimp only [List.set]
    refine g_bipush (v := 48) dX6_describe_114 (by decide) ?_
    refine g_aload_n dX6_describe_116 rfl ?_
    refine g_iload_n dX6_describe_117 rfl ?_
    refine g_top (y := nI a.toNat) (iI_get (by omega) (by omega)) ?_
    refine g_iconst (v := 1) dX6_describe_118 (by decide) ?_
    refine g_iload dX6_describe_119 rfl ?_
    refine g_iadd dX6_describe_121 ?_
    refine g_top (y := nI (9 + k - 8)) (by rw [Int32.add_comm, nI_1]; congr 1; omega) ?_
    refine f1_V (u' := 0) lX6_78 kX6_of (mX6_of (f := 9 + k) hM1 (by omega) (by simp; omega) (by omega)) dX6_describe_122 rfl rfl rfl rfl rfl rfl rfl rfl ?_
    refine g_iadd dX6_describe_125 ?_
    refine g_top (y := nI (48 + (aF A (9 + k) a.toNat).toNat)) (n48 (by omega) (by omega)) ?_
    refine g_iast dX6_describe_126 rfl (show n + 1 < 20 by omega) rfl ?_
    refine s_inc (v := nI (k + 1)) dX6_describe_127 rfl (nI_1 _) rfl rfl rfl ?_
    dsimp only [List.set]
    refine g_goto (tgt := 84) dX6_describe_130 (by decide) ?_
    exact K _ (x_fk_tr (x_fk_si _ _ _ _) (x_fk_si _ _ _ _)) (rW_add (rW_add hW hn rfl) (by rw [List.length_append, hn]; rfl) rfl)
set_option maxRecDepth 100000 in
theorem tX6_desc {l : Launch} {G : ux_G} {h h0 : ux_H} {Hs : List Ab} {A : Ab} {P : Nat} {a b : Int} {W : List Nat} {n : Nat} {y4 : Int32} (hM0 : rM 193 0 A h0) (hK0 : rK Hs h0) (hF0 : x_fN h h0) (h00 : xgi h0 192 0 = 0) (hI : Inv P A) (hW : rW W h0) (hn : W.length = n) (n3 : n ≤ 3) (ha : 0 ≤ a ∧ a < A.2.1) (ra : -2147483648 ≤ a ∧ a ≤ 2147483647) (rb : -2147483648 ≤ b ∧ b ≤ 2147483647) (he : s_line A a.toNat = W ++ [99] ++ [48 + (aF A 9 a.toNat).toNat] ++ [115] ++ [48 + (aF A 10 a.toNat).toNat] ++ [112] ++ [48 + (aF A 11 a.toNat).toNat] ++ [114] ++ [48 + (aF A 12 a.toNat).toNat] ++ [59]) : ux_W l G iX6_describe (ux_rm 4 0) (ux_Z G 0 (QR (k_describe A a b) (iI (r_describe A a b)) A Hs h) (fun _ _ => False)) 84 [some (.ref 192), some (.int (iI a)), some (.int (iI b)), some (.int (nI n)), some (.int y4), some (.int (nI 0))] [] (h0) 0 := by
  obtain ⟨i1, i2, i3, i4, i5, i6⟩ := id hI
  refine sX6_desc (k := 0) (n := n) hM0 hI hW hn (by omega) (by decide) ha (fun h1 f1 w1 => ?_)
  refine sX6_desc (k := 1) (n := n + 2) (rM_k9 hM0 f1 (by decide)) hI w1 (by simp [hn]) (by omega) (by decide) ha (fun h2 f2 w2 => ?_)
  have f12 := x_fk_tr f1 f2
  refine sX6_desc (k := 2) (n := n + 2 + 2) (rM_k9 hM0 f12 (by decide)) hI w2 (by simp [hn]) (by omega) (by decide) ha (fun h3 f3 w3 => ?_)
  have f13 := x_fk_tr f12 f3
  refine sX6_desc (k := 3) (n := n + 2 + 2 + 2) (rM_k9 hM0 f13 (by decide)) hI w3 (by simp [hn]) (by omega) (by decide) ha (fun h4 f4 w4 => ?_)
  have f14 := x_fk_tr f13 f4
  clear hW w1 w2 w3 f1 f2 f3 f4 f12 f13
  have w5 : rW (s_line A a.toNat) (xsi h4 201 (n + 2 + 2 + 2 + 2) (nI 59)) := by
    have q := rW_add (n := n + 2 + 2 + 2 + 2) w4 (by simp [hn]) (x := nI 59) (c := 59) rfl
    have e : s_line A a.toNat = W ++ [cK 0] ++ [48 + (aF A (9 + 0) a.toNat).toNat] ++ [cK 1] ++ [48 + (aF A (9 + 1) a.toNat).toNat] ++ [cK 2] ++ [48 + (aF A (9 + 2) a.toNat).toNat] ++ [cK 3] ++ [48 + (aF A (9 + 3) a.toNat).toNat] ++ [59] := he
    rw [e]
    exact q
  have f5 := x_fk_tr f14 (x_fk_si 201 (n + 2 + 2 + 2 + 2) (nI 59) (h := h4))
  have hN : (s_line A a.toNat).length = n + 9 := by rw [he]; simp [hn]
  clear w4 f14
  refine g_iload dX6_describe_84 rfl ?_
  refine g_iconst (v := 4) dX6_describe_86 (by decide) ?_
  refine g_icmp_ge (tgt := 133) dX6_describe_87 (by decide) (fun c87 => ?_) (fun c87 => ?_)
  · refine g_aload_n dX6_describe_133 rfl ?_
    refine g_getr (q := 201) fX6_38 dX6_describe_134 rfl rfl rfl ?_
    refine g_iload_n dX6_describe_137 rfl ?_
    refine s_inc (v := nI (s_line A a.toNat).length) dX6_describe_138 rfl (by rw [hN]; exact nI_1 _) rfl rfl rfl ?_
    dsimp only [List.set]
    refine g_bipush (v := 59) dX6_describe_141 (by decide) ?_
    refine g_top (y := nI 59) (by decide) ?_
    refine g_iast dX6_describe_143 rfl (show n + 2 + 2 + 2 + 2 < 20 by omega) rfl ?_
    refine g_iload_n dX6_describe_144 rfl ?_
    refine g_iconst (v := (-1)) dX6_describe_145 (by decide) ?_
    refine g_icmp_ne (tgt := 153) dX6_describe_146 (by decide) (fun c146 => ?_) (fun c146 => ?_)
    · rw [xqm (by omega) (by omega)] at c146
      refine g_iload_n dX6_describe_153 rfl ?_
      refine g_iconst (v := 0) dX6_describe_154 (by decide) ?_
      refine g_iload_n dX6_describe_155 rfl ?_
      refine g_iconst (v := 1) dX6_describe_156 (by decide) ?_
      refine g_isub dX6_describe_157 ?_
      refine f1_S (u' := 0) lX6_58 kX6_in (mX6_in) dX6_describe_158 rfl rfl rfl rfl rfl rfl ?_
      refine g_if_eq (tgt := 173) dX6_describe_161 (by decide) (fun c161 => ?_) (fun c161 => ?_)
      · have q161 := (not_congr (x_ix (a := b) (n := (s_line A a.toNat).length) rfl rb (by omega))).mp (xb_0.mp c161)
        refine g_aload_n dX6_describe_173 rfl ?_
        refine g_iconst (v := 2) dX6_describe_174 (by decide) ?_
        refine f1_V (u' := 0) lX6_107 kX6_raises (mX6_raises) dX6_describe_175 rfl rfl rfl rfl rfl rfl rfl rfl ?_
        refine g_ireturn dX6_describe_178 rfl rfl (by decide) ?_
        exact qr_n (c := 2) (by unfold k_describe; (repeat' split) <;> first | rfl | omega | contradiction) (by decide) (rM_k9 hM0 f5 (by decide)) (rK_k hK0 f5 (by decide)) (x_fN_tr hF0 (x_fN_T (x_fT_k f5 (by decide))))
      · have q161 := (x_ix (a := b) (n := (s_line A a.toNat).length) rfl rb (by omega)).mp (xb_n0 c161)
        obtain ⟨v9, hv9⟩ : ∃ v, (s_line A a.toNat)[b.toNat]? = some v := ⟨_, List.getElem?_eq_getElem (by omega)⟩
        refine g_aload_n dX6_describe_164 rfl ?_
        refine g_getr (q := 201) fX6_38 dX6_describe_165 rfl rfl rfl ?_
        refine g_iload_n dX6_describe_168 rfl ?_
        refine g_top (y := nI b.toNat) (iI_get (by omega) (by omega)) ?_
        refine g_iald dX6_describe_169 rfl (show b.toNat < 20 by omega) rfl ?_
        refine g_goto (tgt := 178) dX6_describe_170 (by decide) ?_
        refine g_ireturn dX6_describe_178 rfl rfl (by decide) ?_
        exact qr_g (by unfold k_describe; (repeat' split) <;> first | rfl | omega | contradiction) (by unfold r_describe; rw [if_neg c146, hv9, iI_n]; exact w5 _ v9 hv9) (rM_k9 hM0 f5 (by decide)) (rK_k hK0 f5 (by decide)) (x_fN_tr hF0 (x_fN_T (x_fT_k f5 (by decide)))) ((x_fk_g f5 (by decide) 0).trans h00)
    · rw [xqm (by omega) (by omega)] at c146
      refine g_iload_n dX6_describe_149 rfl ?_
      refine g_goto (tgt := 178) dX6_describe_150 (by decide) ?_
      refine g_ireturn dX6_describe_178 rfl rfl (by decide) ?_
      exact qr_g (by unfold k_describe; (repeat' split) <;> first | rfl | omega | contradiction) (by unfold r_describe; rw [if_pos c146, iI_n]) (rM_k9 hM0 f5 (by decide)) (rK_k hK0 f5 (by decide)) (x_fN_tr hF0 (x_fN_T (x_fT_k f5 (by decide)))) ((x_fk_g f5 (by decide) 0).trans h00)
  · exact absurd c87 (by decide)
set_option maxRecDepth 100000 in
theorem mX6_describe {l : Launch} {G : ux_G} {h : ux_H} {a b : Int} (ra : -2147483648 ≤ a ∧ a ≤ 2147483647) (rb : -2147483648 ≤ b ∧ b ≤ 2147483647) {Hs : List Ab} {A : Ab} {P : Nat} (hM : rM 193 0 A h) (hK : rK Hs h) (hI : Inv P A) (hJ : InvF A) : ux_M l G yX6_describe iX6_describe 4 0 [.ref 192, .int (iI a), .int (iI b)] h (QR (k_describe A a b) (iI (r_describe A a b)) A Hs h) (fun _ _ => False) := by
  refine ux_ent (L' := [some (.ref 192), some (.int (iI a)), some (.int (iI b)), none, none, none]) kX6_describe rfl rfl rfl rfl ?_
  obtain ⟨i1, i2, i3, i4, i5, i6⟩ := id hI
  refine g_aload_n dX6_describe_0 rfl ?_
  refine g_iconst (v := 0) dX6_describe_1 (by decide) ?_
  refine g_puti pX6_44 dX6_describe_2 rfl rfl ?_
  have hM0 := rM_0t (j := 0) (x := 0) (Or.inl rfl) hM
  have hK0 := rK_0t (j := 0) (x := 0) (by decide) hK
  have hF0 := x_fN_0 h 0
  refine g_aload_n dX6_describe_5 rfl ?_
  refine g_iload_n dX6_describe_6 rfl ?_
  refine f1_V (u' := 0) lX6_153 kX6_isLesson (mX6_isLesson hM0 (by omega) (by omega)) dX6_describe_7 rfl rfl rfl rfl rfl rfl rfl rfl ?_
  refine g_if_ne (tgt := 19) dX6_describe_10 (by decide) (fun c10 => ?_) (fun c10 => ?_)
  · have q10 := xb_n0 c10
    refine g_iconst (v := 0) dX6_describe_19 (by decide) ?_
    refine s_i (i := 3) dX6_describe_20 rfl rfl rfl rfl ?_
    dsimp only [List.set]
    refine g_aload_n dX6_describe_21 rfl ?_
    refine g_getr (q := 201) fX6_38 dX6_describe_22 rfl rfl rfl ?_
    refine g_iload_n dX6_describe_25 rfl ?_
    refine s_inc (v := nI 1) dX6_describe_26 rfl (by decide) rfl rfl rfl ?_
    dsimp only [List.set]
    refine g_bipush (v := 108) dX6_describe_29 (by decide) ?_
    refine g_top (y := nI 108) (by decide) ?_
    refine g_iast dX6_describe_31 rfl (show 0 < 20 by decide) rfl ?_
    have fw := x_fk_si 201 0 (nI 108) (h := (xsi h 192 0 0))
    have ww : rW [108] (xsi (xsi h 192 0 0) 201 0 (nI 108)) := rW_add (W := []) (n := 0) (fun j v q => by simp at q) rfl rfl
    have il := i6 a.toNat (by omega)
    refine g_aload_n dX6_describe_32 rfl ?_
    refine g_iload_n dX6_describe_33 rfl ?_
    refine g_top (y := nI a.toNat) (iI_get (by omega) (by omega)) ?_
    refine g_iconst (v := 0) dX6_describe_34 (by decide) ?_
    refine f1_V (u' := 0) lX6_78 kX6_of (mX6_of (f := 8) (rM_k9 hM0 fw (by decide)) (by omega) (by decide) (by omega)) dX6_describe_35 rfl rfl rfl rfl rfl rfl rfl rfl ?_
    refine s_iw dX6_describe_38 rfl rfl rfl ?_
    dsimp only [List.set]
    refine g_iload dX6_describe_40 rfl ?_
    refine g_bipush (v := 9) dX6_describe_42 (by decide) ?_
    refine g_icmp_le (tgt := 64) dX6_describe_44 (by decide) (fun c44 => ?_) (fun c44 => ?_)
    · rw [show (9 : Int32) = iI 9 by decide, iI_le (by omega) (by omega) (by omega) (by omega)] at c44
      refine g_aload_n dX6_describe_64 rfl ?_
      refine g_getr (q := 201) fX6_38 dX6_describe_65 rfl rfl rfl ?_
      refine g_iload_n dX6_describe_68 rfl ?_
      refine s_inc (v := nI 2) dX6_describe_69 rfl rfl rfl rfl rfl ?_
      dsimp only [List.set]
      refine g_bipush (v := 48) dX6_describe_72 (by decide) ?_
      refine g_iload dX6_describe_74 rfl ?_
      refine g_bipush (v := 10) dX6_describe_76 (by decide) ?_
      refine g_irem dX6_describe_78 (by decide) ?_
      refine g_top (y := iI (aF A 8 a.toNat % 10)) (nr10 (by omega) (by omega)) ?_
      refine g_iadd dX6_describe_79 ?_
      refine g_top (y := nI (48 + (aF A 8 a.toNat % 10).toNat)) (n48 (by omega) (by omega)) ?_
      refine g_iast dX6_describe_80 rfl (show 1 < 20 by decide) rfl ?_
      have ww := rW_add (n := 1) ww rfl (x := nI (48 + (aF A 8 a.toNat % 10).toNat)) rfl
      have fw := x_fk_tr fw (x_fk_si 201 1 (nI (48 + (aF A 8 a.toNat % 10).toNat)) (h := _))
      refine g_iconst (v := 0) dX6_describe_81 (by decide) ?_
      refine s_iw dX6_describe_82 rfl rfl rfl ?_
      dsimp only [List.set]
      refine tX6_desc (W := _) (n := 2) (rM_k9 hM0 fw (by decide)) (rK_k hK0 fw (by decide)) (x_fN_tr hF0 (x_fN_T (x_fT_k fw (by decide)))) ((x_fk_g fw (by decide) 0).trans (xgi_si _ _ _ _)) hI ww rfl (by decide) (by omega) ra rb ?_
      unfold s_line
      rw [if_neg (show ¬ 10 ≤ aF A 8 a.toNat by omega)]
      rw [List.append_nil]
    · rw [show (9 : Int32) = iI 9 by decide, iI_le (by omega) (by omega) (by omega) (by omega)] at c44
      refine g_aload_n dX6_describe_47 rfl ?_
      refine g_getr (q := 201) fX6_38 dX6_describe_48 rfl rfl rfl ?_
      refine g_iload_n dX6_describe_51 rfl ?_
      refine s_inc (v := nI 2) dX6_describe_52 rfl (by decide) rfl rfl rfl ?_
      dsimp only [List.set]
      refine g_bipush (v := 48) dX6_describe_55 (by decide) ?_
      refine g_iload dX6_describe_57 rfl ?_
      refine g_bipush (v := 10) dX6_describe_59 (by decide) ?_
      refine g_idiv dX6_describe_61 (by decide) ?_
      refine g_top (y := iI (aF A 8 a.toNat / 10)) (nq10 (by omega) (by omega)) ?_
      refine g_iadd dX6_describe_62 ?_
      refine g_top (y := nI (48 + (aF A 8 a.toNat / 10).toNat)) (n48 (by omega) (by omega)) ?_
      refine g_iast dX6_describe_63 rfl (show 1 < 20 by decide) rfl ?_
      have ww := rW_add (n := 1) ww rfl (x := nI (48 + (aF A 8 a.toNat / 10).toNat)) rfl
      have fw := x_fk_tr fw (x_fk_si 201 1 (nI (48 + (aF A 8 a.toNat / 10).toNat)) (h := _))
      refine g_aload_n dX6_describe_64 rfl ?_
      refine g_getr (q := 201) fX6_38 dX6_describe_65 rfl rfl rfl ?_
      refine g_iload_n dX6_describe_68 rfl ?_
      refine s_inc (v := nI 3) dX6_describe_69 rfl rfl rfl rfl rfl ?_
      dsimp only [List.set]
      refine g_bipush (v := 48) dX6_describe_72 (by decide) ?_
      refine g_iload dX6_describe_74 rfl ?_
      refine g_bipush (v := 10) dX6_describe_76 (by decide) ?_
      refine g_irem dX6_describe_78 (by decide) ?_
      refine g_top (y := iI (aF A 8 a.toNat % 10)) (nr10 (by omega) (by omega)) ?_
      refine g_iadd dX6_describe_79 ?_
      refine g_top (y := nI (48 + (aF A 8 a.toNat % 10).toNat)) (n48 (by omega) (by omega)) ?_
      refine g_iast dX6_describe_80 rfl (show 2 < 20 by decide) rfl ?_
      have ww := rW_add (n := 2) ww rfl (x := nI (48 + (aF A 8 a.toNat % 10).toNat)) rfl
      have fw := x_fk_tr fw (x_fk_si 201 2 (nI (48 + (aF A 8 a.toNat % 10).toNat)) (h := _))
      refine g_iconst (v := 0) dX6_describe_81 (by decide) ?_
      refine s_iw dX6_describe_82 rfl rfl rfl ?_
      dsimp only [List.set]
      refine tX6_desc (W := _) (n := 3) (rM_k9 hM0 fw (by decide)) (rK_k hK0 fw (by decide)) (x_fN_tr hF0 (x_fN_T (x_fT_k fw (by decide)))) ((x_fk_g fw (by decide) 0).trans (xgi_si _ _ _ _)) hI ww rfl (by decide) (by omega) ra rb ?_
      unfold s_line
      rw [if_pos (show 10 ≤ aF A 8 a.toNat by omega)]
  · have q10 := xb_0.mp c10
    refine g_aload_n dX6_describe_13 rfl ?_
    refine g_iconst (v := 1) dX6_describe_14 (by decide) ?_
    refine f1_V (u' := 0) lX6_107 kX6_raises (mX6_raises) dX6_describe_15 rfl rfl rfl rfl rfl rfl rfl rfl ?_
    refine g_ireturn dX6_describe_18 rfl rfl (by decide) ?_
    exact qr_n (c := 1) (by unfold k_describe; (repeat' split) <;> first | rfl | omega | contradiction) (by decide) hM0 hK0 hF0
