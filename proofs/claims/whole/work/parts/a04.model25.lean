/-! THE REFERENCE: an entry is done: walks. -/
theorem rIn_a {L : List Nat} {h h1 : ux_H} (hL : rIn L h) (a : x_fa h h1) : rIn L h1 := rIn_fr hL fun j => a 197 j (by omega)
theorem rM_1 {A : Ab} {h : ux_H} {x : Int32} (hM : rM 193 0 A h) : rM 193 0 A (xsi h 192 11 x) := rM_0t (Or.inl rfl) hM
theorem nI_dig {c : Nat} : nI c - 48 = iI ((c : Int) - 48) := by rw [nI_iI, show (48 : Int32) = iI 48 by decide, iI_sub]
theorem r97 {L : List Nat} {p : Nat} (h : (s_tE L p).1 = true) (hp : p < L.length) (c : s_ch L p = 97) : (0 ≤ (s_tD L (p + 1) 0 7).1 ∧ (s_tD L (p + 1) 0 7).1 ≤ 7) ∧ 0 ≤ (s_tN L ((s_tD L (p + 1) 0 7).2 + 1)).1 := ⟨(s_tE_a h c).1, (s_tE_a h c).2.1⟩
set_option maxRecDepth 100000 in
theorem mX6_does {l : Launch} {G : ux_G} {h : ux_H} {A : Ab} {P : Nat} {L : List Nat} {p : Nat} (hL : rIn L h) (hM : rM 193 0 A h) (hI : Inv P A) (hJ : InvF A) (hP : P + 300 ≤ 10000000) (hp : p < L.length) (hk : (s_tE L p).1 = true) (h0 : xgi h 192 0 = 0) : ux_M l G yX6_does iX6_does 13 0 [.ref 192, .int (nI p)] h (QDo A L p h) (fun _ _ => False) := by
  refine ux_ent (L' := [some (.ref 192), some (.int (nI p)), none, none]) kX6_does rfl rfl rfl rfl ?_
  obtain ⟨i1, i2, i3, i4, i5, i6⟩ := id hI
  have h70 := hL.1
  obtain ⟨r1, r2, r3⟩ := rIn_ch hL hp
  refine g_aload_n dX6_does_0 rfl ?_
  refine g_iload_n dX6_does_1 rfl ?_
  refine g_iconst (v := 1) dX6_does_2 (by decide) ?_
  refine g_iadd dX6_does_3 ?_
  refine g_top (nI_1 _) ?_
  refine g_puti pX6_231 dX6_does_4 rfl rfl ?_
  have hL1 : rIn L (xsi h 192 11 (nI (p + 1))) := rIn_fr hL (fun j => by unfold xsi xsv; rw [if_neg (by omega)])
  refine g_aload_n dX6_does_7 rfl ?_
  refine g_getr (q := 197) fX6_22 dX6_does_8 rfl rfl rfl ?_
  refine g_iload_n dX6_does_11 rfl ?_
  refine g_iald dX6_does_12 rfl (show p < 70 by omega) rfl ?_
  refine g_top (y := nI (s_ch L p)) ((xgi_ne _ _ _ _ _ _ (by omega)).trans r1) ?_
  refine g_bipush (v := 116) dX6_does_13 (by decide) ?_
  refine g_icmp_ne (tgt := 80) dX6_does_15 (by decide) (fun c15 => ?_) (fun c15 => ?_)
  · have q15 : ¬ s_ch L p = 116 := fun y => c15 (by rw [y]; rfl)
    have n116 : ¬ s_is L p 116 116 = true := is_no fun y => by omega
    refine g_aload_n dX6_does_80 rfl ?_
    refine g_getr (q := 197) fX6_22 dX6_does_81 rfl rfl rfl ?_
    refine g_iload_n dX6_does_84 rfl ?_
    refine g_iald dX6_does_85 rfl (show p < 70 by omega) rfl ?_
    refine g_top (y := nI (s_ch L p)) ((xgi_ne _ _ _ _ _ _ (by omega)).trans r1) ?_
    refine g_bipush (v := 108) dX6_does_86 (by decide) ?_
    refine g_icmp_ne (tgt := 177) dX6_does_88 (by decide) (fun c88 => ?_) (fun c88 => ?_)
    · have q88 : ¬ s_ch L p = 108 := fun y => c88 (by rw [y]; rfl)
      have q97 : s_ch L p = 97 := by have := s_tE_k hk; omega
      have n108 : ¬ s_is L p 108 108 = true := is_no fun y => by omega
      have i97 : s_is L p 97 97 = true := is_mk hp ⟨by omega, by omega⟩
      obtain ⟨j1, eD, j2, hN, j3, hE⟩ := ok_a hk n116 n108 i97
      have i1 := is_of j1
      have i2 := is_of j2
      have i3 := is_of j3
      have rN := s_tN_r L (p + 3)
      have rA := r97 hk hp q97
      rw [eD] at rA
      have rA0 : 0 ≤ (s_tN L (p + 3)).1 := by omega
      refine g_aload_n dX6_does_177 rfl ?_
      refine g_getr (q := 197) fX6_22 dX6_does_178 rfl rfl rfl ?_
      refine g_aload_n dX6_does_181 rfl ?_
      refine g_geti fX6_231 dX6_does_182 rfl rfl ?_
      refine g_top (xgi_si _ _ _ _) ?_
      refine g_iald dX6_does_185 rfl (show p + 1 < 70 by omega) rfl ?_
      refine g_top (y := nI (s_ch L (p + 1))) ((rIn_ch hL1 (p := p + 1) (by omega)).1) ?_
      refine g_bipush (v := 48) dX6_does_186 (by decide) ?_
      refine g_isub dX6_does_188 ?_
      refine g_top nI_dig ?_
      refine s_i (i := 2) dX6_does_189 rfl rfl rfl rfl ?_
      dsimp only [List.set]
      refine g_aload_n dX6_does_190 rfl ?_
      refine g_aload_n dX6_does_191 rfl ?_
      refine g_geti fX6_231 dX6_does_192 rfl rfl ?_
      refine g_top (xgi_si _ _ _ _) ?_
      refine g_iconst (v := 2) dX6_does_195 (by decide) ?_
      refine g_iadd dX6_does_196 ?_
      refine g_top (y := nI (p + 3)) (by rw [show (2 : Int32) = nI 2 by decide, nI_add]) ?_
      refine q_V (u' := 0) lX6_244 kX6_number (mX6_number (q := p + 3) hL1 hN i3.1 (by omega)) dX6_does_197 rfl rfl rfl rfl rfl rfl rfl rfl (fun v h197 hq => ?_) (fun _ _ q => q.elim)
      obtain ⟨rfl, hp2, hF2⟩ := hq
      have hM3 := rM_a (rM_1 (x := nI (p + 1)) hM) hF2
      dsimp only [Option.toList, List.cons_append, List.nil_append]
      refine s_i (i := 3) dX6_does_200 rfl rfl rfl rfl ?_
      dsimp only [List.set]
      refine g_aload_n dX6_does_201 rfl ?_
      refine g_iload_n dX6_does_202 rfl ?_
      refine f1_V (u' := 0) lX6_119 kX6_isTeacher (mX6_isTeacher (a := ((s_ch L (p + 1) : Int) - 48)) hM3 (by omega) (by omega)) dX6_does_203 rfl rfl rfl rfl rfl rfl rfl rfl ?_
      refine g_if_eq (tgt := 225) dX6_does_206 (by decide) (fun c206 => ?_) (fun c206 => ?_)
      · have q206 := xb_0.mp c206
        refine g_aload_n dX6_does_225 rfl ?_
        refine g_iconst (v := 1) dX6_does_226 (by decide) ?_
        refine g_puti pX6_44 dX6_does_227 rfl rfl ?_
        refine g_goto (tgt := 241) dX6_does_230 (by decide) ?_
        refine g_aload_n dX6_does_241 rfl ?_
        refine g_geti fX6_231 dX6_does_242 rfl rfl ?_
        first | refine g_top (y := nI (n1 + 8)) (xgi_si _ _ _ _) ?_ | refine g_top (y := nI (s_tN L (p + 3)).2) ((show xgi h237 192 11 = xgi h197 192 11 by unfold xgi; rw [hF4 192 (by decide) 11]).trans hp2) ?_ | refine g_top (y := nI (s_tN L (p + 3)).2) ((xgi_ne _ _ _ _ _ _ (by decide)).trans hp2) ?_
        refine g_iconst (v := 1) dX6_does_245 (by decide) ?_
        refine g_iadd dX6_does_246 ?_
        refine g_top (nI_1 _) ?_
        refine g_ireturn dX6_does_247 rfl rfl (by decide) ?_
        have er : s_ref A L p = (decide ((A.1 : Int) ≤ (s_tD L (p + 1) 0 7).1) || decide (30 ≤ (s_tN L ((s_tD L (p + 1) 0 7).2 + 1)).1) || s_away A (s_tD L (p + 1) 0 7).1.toNat (s_tN L ((s_tD L (p + 1) 0 7).2 + 1)).1) := (if_neg q15).trans (if_neg q88)
        have er : s_ref A L p = (decide ((A.1 : Int) ≤ ((s_ch L (p + 1) : Int) - 48)) || decide (30 ≤ (s_tN L (p + 3)).1) || s_away A ((s_ch L (p + 1) : Int) - 48).toNat (s_tN L (p + 3)).1) := by rw [er, eD]
        have et : s_ref A L p = true := by rw [er, decide_eq_true (by omega)]; rfl
        refine ⟨by rw [hE], x_fd_tr (x_fd_a (x_fa_si _ _)) (x_fd_tr (x_fd_a hF2) ⟨fun c a b j => by unfold xsi xsv; rw [if_neg (by omega)], fun j a b => by unfold xsi xsv; rw [if_neg (by omega)]⟩), fun _ => by rw [xgi_si]; decide, fun y => absurd et y⟩
      · have q206 := xb_n0 c206
        refine g_iload_n dX6_does_209 rfl ?_
        refine f1_S (u' := 0) lX6_142 kX6_isSlot (mX6_isSlot (a := (s_tN L (p + 3)).1) (by omega)) dX6_does_210 rfl rfl rfl rfl rfl rfl ?_
        refine g_if_eq (tgt := 225) dX6_does_213 (by decide) (fun c213 => ?_) (fun c213 => ?_)
        · have q213 := xb_0.mp c213
          refine g_aload_n dX6_does_225 rfl ?_
          refine g_iconst (v := 1) dX6_does_226 (by decide) ?_
          refine g_puti pX6_44 dX6_does_227 rfl rfl ?_
          refine g_goto (tgt := 241) dX6_does_230 (by decide) ?_
          refine g_aload_n dX6_does_241 rfl ?_
          refine g_geti fX6_231 dX6_does_242 rfl rfl ?_
          first | refine g_top (y := nI (n1 + 8)) (xgi_si _ _ _ _) ?_ | refine g_top (y := nI (s_tN L (p + 3)).2) ((show xgi h237 192 11 = xgi h197 192 11 by unfold xgi; rw [hF4 192 (by decide) 11]).trans hp2) ?_ | refine g_top (y := nI (s_tN L (p + 3)).2) ((xgi_ne _ _ _ _ _ _ (by decide)).trans hp2) ?_
          refine g_iconst (v := 1) dX6_does_245 (by decide) ?_
          refine g_iadd dX6_does_246 ?_
          refine g_top (nI_1 _) ?_
          refine g_ireturn dX6_does_247 rfl rfl (by decide) ?_
          have er : s_ref A L p = (decide ((A.1 : Int) ≤ (s_tD L (p + 1) 0 7).1) || decide (30 ≤ (s_tN L ((s_tD L (p + 1) 0 7).2 + 1)).1) || s_away A (s_tD L (p + 1) 0 7).1.toNat (s_tN L ((s_tD L (p + 1) 0 7).2 + 1)).1) := (if_neg q15).trans (if_neg q88)
          have er : s_ref A L p = (decide ((A.1 : Int) ≤ ((s_ch L (p + 1) : Int) - 48)) || decide (30 ≤ (s_tN L (p + 3)).1) || s_away A ((s_ch L (p + 1) : Int) - 48).toNat (s_tN L (p + 3)).1) := by rw [er, eD]
          have et : s_ref A L p = true := by rw [er, decide_eq_true (show (30 : Int) ≤ (s_tN L (p + 3)).1 by omega), Bool.or_true, Bool.true_or]
          refine ⟨by rw [hE], x_fd_tr (x_fd_a (x_fa_si _ _)) (x_fd_tr (x_fd_a hF2) ⟨fun c a b j => by unfold xsi xsv; rw [if_neg (by omega)], fun j a b => by unfold xsi xsv; rw [if_neg (by omega)]⟩), fun _ => by rw [xgi_si]; decide, fun y => absurd et y⟩
        · have q213 := xb_n0 c213
          refine g_aload_n dX6_does_216 rfl ?_
          refine g_iload_n dX6_does_217 rfl ?_
          refine g_top (y := nI ((s_ch L (p + 1) : Int) - 48).toNat) (iI_get (by omega) (by omega)) ?_
          refine g_iload_n dX6_does_218 rfl ?_
          refine f1_V (u' := 0) lX6_81 kX6_isAway (mX6_isAway (s := (s_tN L (p + 3)).1) hM3 hI (by omega)) dX6_does_219 rfl rfl rfl rfl rfl rfl rfl rfl ?_
          refine g_if_eq (tgt := 233) dX6_does_222 (by decide) (fun c222 => ?_) (fun c222 => ?_)
          · have q222 : s_away A ((s_ch L (p + 1) : Int) - 48).toNat (s_tN L (p + 3)).1 = false := Bool.eq_false_iff.mpr (xb_0.mp c222)
            refine g_aload_n dX6_does_233 rfl ?_
            refine g_iload_n dX6_does_234 rfl ?_
            refine g_top (y := nI ((s_ch L (p + 1) : Int) - 48).toNat) (iI_get (by omega) (by omega)) ?_
            refine g_iload_n dX6_does_235 rfl ?_
            refine g_top (y := nI (s_tN L (p + 3)).1.toNat) (iI_get (by omega) (by omega)) ?_
            refine g_iconst (v := 1) dX6_does_236 (by decide) ?_
            refine q_V (u' := 0) lX6_169 kX6_turns (mX6_turns (t := ((s_ch L (p + 1) : Int) - 48).toNat) (s := (s_tN L (p + 3)).1.toNat) (b := true) hM3 hI hJ (by omega) (by omega) (by omega) (by rw [Int.toNat_of_nonneg rA0]; exact q222)) dX6_does_237 rfl rfl rfl rfl rfl rfl rfl rfl (fun v h237 hq => ?_) (fun _ _ q => q.elim)
            obtain ⟨rfl, hM4, hF4⟩ := hq
            dsimp only [Option.toList, List.cons_append, List.nil_append]
            refine g_pop dX6_does_240 rfl ?_
            refine g_aload_n dX6_does_241 rfl ?_
            refine g_geti fX6_231 dX6_does_242 rfl rfl ?_
            first | refine g_top (y := nI (n1 + 8)) (xgi_si _ _ _ _) ?_ | refine g_top (y := nI (s_tN L (p + 3)).2) ((show xgi h237 192 11 = xgi h197 192 11 by unfold xgi; rw [hF4 192 (by decide) 11]).trans hp2) ?_ | refine g_top (y := nI (s_tN L (p + 3)).2) ((xgi_ne _ _ _ _ _ _ (by decide)).trans hp2) ?_
            refine g_iconst (v := 1) dX6_does_245 (by decide) ?_
            refine g_iadd dX6_does_246 ?_
            refine g_top (nI_1 _) ?_
            refine g_ireturn dX6_does_247 rfl rfl (by decide) ?_
            have er : s_ref A L p = (decide ((A.1 : Int) ≤ (s_tD L (p + 1) 0 7).1) || decide (30 ≤ (s_tN L ((s_tD L (p + 1) 0 7).2 + 1)).1) || s_away A (s_tD L (p + 1) 0 7).1.toNat (s_tN L ((s_tD L (p + 1) 0 7).2 + 1)).1) := (if_neg q15).trans (if_neg q88)
            have er : s_ref A L p = (decide ((A.1 : Int) ≤ ((s_ch L (p + 1) : Int) - 48)) || decide (30 ≤ (s_tN L (p + 3)).1) || s_away A ((s_ch L (p + 1) : Int) - 48).toNat (s_tN L (p + 3)).1) := by rw [er, eD]
            have ef : s_ref A L p = false := by rw [er, decide_eq_false (by omega), decide_eq_false (by omega), q222]; rfl
            have ed : s_do A L p = s_turn A ((s_ch L (p + 1) : Int) - 48).toNat (s_tN L (p + 3)).1 := by rw [show s_do A L p = s_turn A (s_tD L (p + 1) 0 7).1.toNat (s_tN L ((s_tD L (p + 1) 0 7).2 + 1)).1 from (if_neg q15).trans (if_neg q88), eD]
            refine ⟨by rw [hE], x_fd_tr (x_fd_a (x_fa_si _ _)) (x_fd_tr (x_fd_a hF2) (x_fd_m hF4)), (fun y => absurd (ef.symm.trans y) (by decide)), fun _ => ?_⟩
            rw [ed]
            rw [Int.toNat_of_nonneg rA0] at hM4
            exact ⟨(show xgi h237 192 0 = xgi h197 192 0 by unfold xgi; rw [hF4 192 (by decide) 0]).trans ((x_fa_g hF2 (by decide)).trans ((xgi_ne _ _ _ _ _ _ (by decide)).trans h0)), hM4⟩
          · have q222 : s_away A ((s_ch L (p + 1) : Int) - 48).toNat (s_tN L (p + 3)).1 = true := xb_n0 c222
            refine g_aload_n dX6_does_225 rfl ?_
            refine g_iconst (v := 1) dX6_does_226 (by decide) ?_
            refine g_puti pX6_44 dX6_does_227 rfl rfl ?_
            refine g_goto (tgt := 241) dX6_does_230 (by decide) ?_
            refine g_aload_n dX6_does_241 rfl ?_
            refine g_geti fX6_231 dX6_does_242 rfl rfl ?_
            first | refine g_top (y := nI (n1 + 8)) (xgi_si _ _ _ _) ?_ | refine g_top (y := nI (s_tN L (p + 3)).2) ((show xgi h237 192 11 = xgi h197 192 11 by unfold xgi; rw [hF4 192 (by decide) 11]).trans hp2) ?_ | refine g_top (y := nI (s_tN L (p + 3)).2) ((xgi_ne _ _ _ _ _ _ (by decide)).trans hp2) ?_
            refine g_iconst (v := 1) dX6_does_245 (by decide) ?_
            refine g_iadd dX6_does_246 ?_
            refine g_top (nI_1 _) ?_
            refine g_ireturn dX6_does_247 rfl rfl (by decide) ?_
            have er : s_ref A L p = (decide ((A.1 : Int) ≤ (s_tD L (p + 1) 0 7).1) || decide (30 ≤ (s_tN L ((s_tD L (p + 1) 0 7).2 + 1)).1) || s_away A (s_tD L (p + 1) 0 7).1.toNat (s_tN L ((s_tD L (p + 1) 0 7).2 + 1)).1) := (if_neg q15).trans (if_neg q88)
            have er : s_ref A L p = (decide ((A.1 : Int) ≤ ((s_ch L (p + 1) : Int) - 48)) || decide (30 ≤ (s_tN L (p + 3)).1) || s_away A ((s_ch L (p + 1) : Int) - 48).toNat (s_tN L (p + 3)).1) := by rw [er, eD]
            have et : s_ref A L p = true := by rw [er, q222, Bool.or_true]
            refine ⟨by rw [hE], x_fd_tr (x_fd_a (x_fa_si _ _)) (x_fd_tr (x_fd_a hF2) ⟨fun c a b j => by unfold xsi xsv; rw [if_neg (by omega)], fun j a b => by unfold xsi xsv; rw [if_neg (by omega)]⟩), fun _ => by rw [xgi_si]; decide, fun y => absurd et y⟩
    · have q88 : s_ch L p = 108 := by rw [show (108 : Int32) = nI 108 by decide, nI_iI, nI_iI, iI_eq (by omega) (by omega) (by omega) (by omega)] at c88; omega
      have i108 : s_is L p 108 108 = true := is_mk hp ⟨by omega, by omega⟩
      obtain ⟨n1, hN, hn, j0, v1, j1, v2, j2, v3, j3, v4, j4, j5, hE⟩ := ok_l hk n116 i108
      have i0 := is_of j0
      have i1 := is_of j1
      have i2 := is_of j2
      have i3 := is_of j3
      have i4 := is_of j4
      have i5 := is_of j5
      have rN := s_tN_r L (p + 1)
      refine g_aload_n dX6_does_91 rfl ?_
      refine g_aload_n dX6_does_92 rfl ?_
      refine g_geti fX6_231 dX6_does_93 rfl rfl ?_
      refine g_top (xgi_si _ _ _ _) ?_
      refine q_V (u' := 0) lX6_244 kX6_number (mX6_number (q := p + 1) hL1 hN (by rw [hn]; omega) (by rw [hn]; omega)) dX6_does_96 rfl rfl rfl rfl rfl rfl rfl rfl (fun v h96 hq => ?_) (fun _ _ q => q.elim)
      rw [hn] at hq
      obtain ⟨rfl, hp2, hF2⟩ := hq
      have hL2 := rIn_a hL1 hF2
      dsimp only [Option.toList, List.cons_append, List.nil_append]
      refine s_i (i := 2) dX6_does_99 rfl rfl rfl rfl ?_
      dsimp only [List.set]
      refine g_aload_n dX6_does_100 rfl ?_
      refine g_iload_n dX6_does_101 rfl ?_
      refine g_aload_n dX6_does_102 rfl ?_
      refine g_getr (q := 197) fX6_22 dX6_does_103 rfl rfl rfl ?_
      refine g_aload_n dX6_does_106 rfl ?_
      refine g_geti fX6_231 dX6_does_107 rfl rfl ?_
      refine g_top hp2 ?_
      refine g_iconst (v := 1) dX6_does_110 (by decide) ?_
      refine g_iadd dX6_does_111 ?_
      refine g_top (y := nI (n1 + 1)) (by rw [show (1 : Int32) = nI 1 by decide, nI_add]) ?_
      refine g_iald dX6_does_112 rfl (show n1 + 1 < 70 by omega) rfl ?_
      refine g_top (y := nI (s_ch L (n1 + 1))) ((rIn_ch hL2 (p := n1 + 1) (by omega)).1) ?_
      refine g_bipush (v := 48) dX6_does_113 (by decide) ?_
      refine g_isub dX6_does_115 ?_
      refine g_top (y := iI (s_l1 L (p + 1)).1) (by rw [nI_dig, v1]) ?_
      refine g_aload_n dX6_does_116 rfl ?_
      refine g_getr (q := 197) fX6_22 dX6_does_117 rfl rfl rfl ?_
      refine g_aload_n dX6_does_120 rfl ?_
      refine g_geti fX6_231 dX6_does_121 rfl rfl ?_
      refine g_top hp2 ?_
      refine g_iconst (v := 3) dX6_does_124 (by decide) ?_
      refine g_iadd dX6_does_125 ?_
      refine g_top (y := nI (n1 + 3)) (by rw [show (3 : Int32) = nI 3 by decide, nI_add]) ?_
      refine g_iald dX6_does_126 rfl (show n1 + 3 < 70 by omega) rfl ?_
      refine g_top (y := nI (s_ch L (n1 + 3))) ((rIn_ch hL2 (p := n1 + 3) (by omega)).1) ?_
      refine g_bipush (v := 48) dX6_does_127 (by decide) ?_
      refine g_isub dX6_does_129 ?_
      refine g_top (y := iI (s_l2 L (p + 1)).1) (by rw [nI_dig, v2]) ?_
      refine g_aload_n dX6_does_130 rfl ?_
      refine g_getr (q := 197) fX6_22 dX6_does_131 rfl rfl rfl ?_
      refine g_aload_n dX6_does_134 rfl ?_
      refine g_geti fX6_231 dX6_does_135 rfl rfl ?_
      refine g_top hp2 ?_
      refine g_iconst (v := 5) dX6_does_138 (by decide) ?_
      refine g_iadd dX6_does_139 ?_
      refine g_top (y := nI (n1 + 5)) (by rw [show (5 : Int32) = nI 5 by decide, nI_add]) ?_
      refine g_iald dX6_does_140 rfl (show n1 + 5 < 70 by omega) rfl ?_
      refine g_top (y := nI (s_ch L (n1 + 5))) ((rIn_ch hL2 (p := n1 + 5) (by omega)).1) ?_
      refine g_bipush (v := 48) dX6_does_141 (by decide) ?_
      refine g_isub dX6_does_143 ?_
      refine g_top (y := iI (s_l3 L (p + 1)).1) (by rw [nI_dig, v3]) ?_
      refine g_aload_n dX6_does_144 rfl ?_
      refine g_getr (q := 197) fX6_22 dX6_does_145 rfl rfl rfl ?_
      refine g_aload_n dX6_does_148 rfl ?_
      refine g_geti fX6_231 dX6_does_149 rfl rfl ?_
      refine g_top hp2 ?_
      refine g_bipush (v := 7) dX6_does_152 (by decide) ?_
      refine g_iadd dX6_does_154 ?_
      refine g_top (y := nI (n1 + 7)) (by rw [show (7 : Int32) = nI 7 by decide, nI_add]) ?_
      refine g_iald dX6_does_155 rfl (show n1 + 7 < 70 by omega) rfl ?_
      refine g_top (y := nI (s_ch L (n1 + 7))) ((rIn_ch hL2 (p := n1 + 7) (by omega)).1) ?_
      refine g_bipush (v := 48) dX6_does_156 (by decide) ?_
      refine g_isub dX6_does_158 ?_
      refine g_top (y := iI (s_l4 L (p + 1)).1) (by rw [nI_dig, v4]) ?_
      refine q_V (u' := 0) lX6_149 kX6_newLesson (mX6_newLesson (rM_a (rM_1 hM) hF2) hI (a := (s_tN L (p + 1)).1) (b := (s_l1 L (p + 1)).1) (c := (s_l2 L (p + 1)).1) (d := (s_l3 L (p + 1)).1) (e := (s_l4 L (p + 1)).1) (by omega) (by omega) (by omega) (by omega) (by omega)) dX6_does_159 rfl rfl rfl rfl rfl rfl rfl rfl (fun v h159 hq => ?_) (fun _ _ q => q.elim)
      have hQ := hq
      obtain ⟨rfl, hM4, ht4, hF4⟩ := hq
      dsimp only [Option.toList, List.cons_append, List.nil_append]
      refine g_pop dX6_does_162 rfl ?_
      refine g_aload_n dX6_does_163 rfl ?_
      refine g_dup dX6_does_164 rfl ?_
      refine g_geti fX6_231 dX6_does_165 rfl rfl ?_
      refine g_top (y := nI n1) ((show xgi h159 192 11 = xgi h96 192 11 by unfold xgi; rw [hF4.2 11 (by decide)]).trans hp2) ?_
      refine g_bipush (v := 8) dX6_does_168 (by decide) ?_
      refine g_iadd dX6_does_170 ?_
      refine g_top (y := nI (n1 + 8)) (by rw [show (8 : Int32) = nI 8 by decide, nI_add]) ?_
      refine g_puti pX6_231 dX6_does_171 rfl rfl ?_
      refine g_goto (tgt := 241) dX6_does_174 (by decide) ?_
      refine g_aload_n dX6_does_241 rfl ?_
      refine g_geti fX6_231 dX6_does_242 rfl rfl ?_
      first | refine g_top (y := nI (n1 + 8)) (xgi_si _ _ _ _) ?_ | refine g_top (y := nI (s_tN L (p + 3)).2) ((show xgi h237 192 11 = xgi h197 192 11 by unfold xgi; rw [hF4 192 (by decide) 11]).trans hp2) ?_ | refine g_top (y := nI (s_tN L (p + 3)).2) ((xgi_ne _ _ _ _ _ _ (by decide)).trans hp2) ?_
      refine g_iconst (v := 1) dX6_does_245 (by decide) ?_
      refine g_iadd dX6_does_246 ?_
      refine g_top (nI_1 _) ?_
      refine g_ireturn dX6_does_247 rfl rfl (by decide) ?_
      have er : s_ref A L p = decide (s_fault A (s_tN L (p + 1)).1 (s_l1 L (p + 1)).1 (s_l2 L (p + 1)).1 (s_l3 L (p + 1)).1 (s_l4 L (p + 1)).1 ≠ 0) := (if_neg q15).trans (if_pos q88)
      have ed : s_do A L p = s_putL A (s_tN L (p + 1)).1 (s_l1 L (p + 1)).1 (s_l2 L (p + 1)).1 (s_l3 L (p + 1)).1 (s_l4 L (p + 1)).1 := (if_neg q15).trans (if_pos q88)
      refine ⟨by rw [hE], x_fd_tr (x_fd_a (x_fa_si _ _)) (x_fd_tr (x_fd_a hF2) (x_fd_tr (x_fd_p hF4) (x_fd_a (x_fa_si _ _)))), fun y => ?_, fun y => ?_⟩
      · rw [er] at y
        have y := of_decide_eq_true y
        have kb : s_fault A (s_tN L (p + 1)).1 (s_l1 L (p + 1)).1 (s_l2 L (p + 1)).1 (s_l3 L (p + 1)).1 (s_l4 L (p + 1)).1 ≤ 3 := by unfold s_fault; split; decide; split; decide; split <;> decide
        rw [xgi_ne _ _ _ _ _ _ (by decide), ht4, if_neg y, nI_iI]
        intro z
        rw [xq0 (by omega) (by omega)] at z
        omega
      · rw [er] at y
        have y := Decidable.not_not.mp ((not_congr decide_eq_true_iff).mp y)
        rw [y] at hM4 ht4
        rw [ed]
        exact ⟨(xgi_ne _ _ _ _ _ _ (by decide)).trans (ht4.trans (by rw [if_pos rfl]; exact (x_fa_g hF2 (by decide)).trans ((xgi_ne _ _ _ _ _ _ (by decide)).trans h0))), rM_1 (by rwa [if_pos rfl] at hM4)⟩
  · have q15 : s_ch L p = 116 := by rw [show (116 : Int32) = nI 116 by decide, nI_iI, nI_iI, iI_eq (by omega) (by omega) (by omega) (by omega)] at c15; omega
    have i116 : s_is L p 116 116 = true := is_mk hp ⟨by omega, by omega⟩
    obtain ⟨su, p1, hT, hs0, j1, j2, j3, hE⟩ := ok_t hk i116
    have i1 := is_of j1
    have i2 := is_of j2
    have i3 := is_of j3
    have eN : s_tN L (p1 + 1) = ((s_ch L (p1 + 1) : Int) - 48, p1 + 2) := tN_1 (p := p1 + 1) (is_mk i2.1 (by omega)) (show ¬ s_is L (p1 + 2) 48 57 = true from is_no fun y => by omega)
    have eV : s_tTv L (p + 1) = ((s_ch L (p1 + 1) : Int) - 48, p1 + 2) := by unfold s_tTv; rw [hT]; exact tD_t j2
    obtain ⟨su1, su2, su3⟩ := s_tE_t hp hk q15
    rw [hT] at su1
    have su1 : 1 ≤ su ∧ su ≤ 63 := su1
    have hpl : p + 1 < L.length := by
      rcases Nat.lt_or_ge (p + 1) L.length with y | y
      · exact y
      · exfalso
        have : s_tTa L (p + 1) = (0, p + 1) := by unfold s_tTa; rw [tD_f (is_no fun w => by omega), s_tT1_0 rfl]
        rw [this] at hT
        injection hT with e1 e2
        omega
    refine g_iconst (v := 0) dX6_does_18 (by decide) ?_
    refine g_top (y := nI 0) rfl ?_
    refine s_i (i := 2) dX6_does_19 rfl rfl rfl rfl ?_
    dsimp only [List.set]
    refine tX6_set (l := l) (G := G) (h0 := (xsi h 192 11 (nI (p + 1)))) (p := p) (p1 := p1) (s1 := su) hL1 hT j1 ?_ 7 6 0 0 (p + 1) _ rfl (xgi_si _ _ _ _) (x_fa_rf _) hpl (by decide) (by decide) (by decide) (by decide)
    intro h2 hp2 hF2
    refine g_aload_n dX6_does_61 rfl ?_
    refine g_iload_n dX6_does_62 rfl ?_
    refine g_aload_n dX6_does_63 rfl ?_
    refine g_aload_n dX6_does_64 rfl ?_
    refine g_geti fX6_231 dX6_does_65 rfl rfl ?_
    refine g_top hp2 ?_
    refine g_iconst (v := 1) dX6_does_68 (by decide) ?_
    refine g_iadd dX6_does_69 ?_
    refine g_top (nI_1 _) ?_
    refine q_V (u' := 0) lX6_244 kX6_number (mX6_number (q := p1 + 1) (rIn_a hL1 hF2) (by rw [eN]; show (s_ch L (p1 + 1) : Int) - 48 ≠ -1; omega) (by rw [eN]; exact i3.1) (by rw [eN]; show ¬ (48 ≤ s_ch L (p1 + 2) ∧ s_ch L (p1 + 2) ≤ 57); omega)) dX6_does_70 rfl rfl rfl rfl rfl rfl rfl rfl (fun v h70 hq => ?_) (fun _ _ q => q.elim)
    rw [eN] at hq
    obtain ⟨rfl, hp3, hF3⟩ := hq
    dsimp only [Option.toList, List.cons_append, List.nil_append]
    refine g_st (st' := [.int (iI ((s_ch L (p1 + 1) : Int) - 48)), .int (iI (su : Int)), .ref 192]) (by rw [iI_n]) ?_
    refine q_V (u' := 0) lX6_113 kX6_newTeacher (mX6_newTeacher (a := (su : Int)) (b := (s_ch L (p1 + 1) : Int) - 48) (rM_a (rM_a (rM_1 hM) hF2) hF3) hI ⟨by omega, by omega⟩ ⟨by omega, by omega⟩) dX6_does_73 rfl rfl rfl rfl rfl rfl rfl rfl (fun v h73 hq => ?_) (fun _ _ q => q.elim)
    have hQ := hq
    obtain ⟨rfl, hM4, ht4, hF4⟩ := hq
    dsimp only [Option.toList, List.cons_append, List.nil_append]
    refine g_pop dX6_does_76 rfl ?_
    refine g_goto (tgt := 241) dX6_does_77 (by decide) ?_
    refine g_aload_n dX6_does_241 rfl ?_
    refine g_geti fX6_231 dX6_does_242 rfl rfl ?_
    refine g_top (y := nI (p1 + 2)) (by rw [show xgi h73 192 11 = xgi h70 192 11 by unfold xgi; rw [hQ.2.2.2.2 11 (by decide)]]; exact hp3) ?_
    refine g_iconst (v := 1) dX6_does_245 (by decide) ?_
    refine g_iadd dX6_does_246 ?_
    refine g_top (nI_1 _) ?_
    refine g_ireturn dX6_does_247 rfl rfl (by decide) ?_
    have ek : k_addTeacher A (su : Int) ((s_ch L (p1 + 1) : Int) - 48) = if A.1 < 8 then 0 else 2 := by unfold k_addTeacher; rw [if_neg (by omega)]; by_cases y : A.1 < 8 <;> simp [y]
    have er : s_ref A L p = decide (8 ≤ A.1) := if_pos q15
    have ed : s_do A L p = s_putT A (su : Int) ((s_ch L (p1 + 1) : Int) - 48) := by unfold s_do; rw [if_pos q15, hT, eV]
    refine ⟨by rw [hE], x_fd_tr (x_fd_a (x_fa_si _ _)) (x_fd_tr (x_fd_a hF2) (x_fd_tr (x_fd_a hF3) (x_fd_p hF4))), fun y => ?_, fun y => ?_⟩
    · rw [er] at y
      have y := of_decide_eq_true y
      rw [ht4, ek, if_neg (show ¬ A.1 < 8 by omega), if_neg (show ¬ (2 : Nat) = 0 by decide)]
      decide
    · rw [er] at y
      have y : A.1 < 8 := by have := (not_congr (decide_eq_true_iff)).mp y; omega
      rw [ek, if_pos y] at hM4 ht4
      rw [ed]
      exact ⟨ht4.trans (by rw [if_pos rfl]; exact (x_fa_g hF3 (by decide)).trans ((x_fa_g hF2 (by decide)).trans ((xgi_ne _ _ _ _ _ _ (by decide)).trans h0))), by rwa [if_pos rfl] at hM4⟩
