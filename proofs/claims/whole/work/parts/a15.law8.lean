/-! THE LAW: clear, audit, save, the average; its loop. -/
set_option maxRecDepth 100000 in
theorem cs_clear {l : Launch} {G : ux_G} {hh : List (Nat × Nat × Nat × Nat)} {b Ln : Nat} {xs : Nat → Int32} {P : Nat} {h : ux_H} {i u : Nat} (hR : RLw P h) (hP : P + 13000 ≤ 10000000) (hi : i + 6 ≤ Ln) (hL : Ln ≤ 3072) (hu : u ≤ 90000) (K : ∀ h9 u9, u9 ≤ u + 5 → RLw (P + 13000) h9 → ux_W l G (iW hh) room_1 (lZ G b Ln xs) 2870 [some (.ref (1000 + b)), some (.ref 176), some (.ref 192), some (.ref 202), some (.ref 203), some (.int (nI i)), none, none, none] [] h9 u9) : ux_W l G (iW hh) room_1 (lZ G b Ln xs) 236 [some (.ref (1000 + b)), some (.ref 176), some (.ref 192), some (.ref 202), some (.ref 203), some (.int (nI i)), none, none, none] [] h u := by
  obtain ⟨R9, TA, TB, hA, hB, hfin, hst⟩ := oq_clear (l := l) (G := G) hR hP
  refine g_aload_n dL_law_236 rfl ?_
  refine g_callV (rest := []) lL_158 kX5_clear hA dL_law_237 rfl rfl rfl rfl (ro_law (by decide) (by decide) (by decide) (by omega)) rfl (Nat.le_of_ble_eq_true rfl) (fun v h1 hq => ?_) (fun _ _ z => z.elim)
  obtain ⟨rfl, hTA, hfr⟩ := hq
  dsimp only [Option.toList, List.cons_append, List.nil_append]
  refine g_aload_n dL_law_240 rfl ?_
  refine g_callV (rest := [.int R9]) lL_161 kX6_clear (hB h1 hfr) dL_law_241 rfl rfl rfl rfl (ro_law (by decide) (by decide) (by decide) (by omega)) rfl (Nat.le_of_ble_eq_true rfl) (fun v h2 hq => ?_) (fun _ _ z => z.elim)
  obtain ⟨rfl, hTB, hfr2⟩ := hq
  dsimp only [Option.toList, List.cons_append, List.nil_append]
  exact g_icmp_eq (tgt := 2870) dL_law_244 (by decide) (fun _ => K _ _ (by omega) (hfin _ (hst _ _ hTA (fun c hc j => hfr2 c (Or.inl hc) j)) hTB)) (fun c => absurd rfl c)
set_option maxRecDepth 100000 in
theorem cs_audit {l : Launch} {G : ux_G} {hh : List (Nat × Nat × Nat × Nat)} {b Ln : Nat} {xs : Nat → Int32} {P : Nat} {h : ux_H} {i u : Nat} (hR : RLw P h) (hP : P + 13000 ≤ 10000000) (hi : i + 6 ≤ Ln) (hL : Ln ≤ 3072) (hu : u ≤ 90000) (K : ∀ h9 u9, u9 ≤ u + 5 → RLw (P + 13000) h9 → ux_W l G (iW hh) room_1 (lZ G b Ln xs) 2870 [some (.ref (1000 + b)), some (.ref 176), some (.ref 192), some (.ref 202), some (.ref 203), some (.int (nI i)), none, none, none] [] h9 u9) : ux_W l G (iW hh) room_1 (lZ G b Ln xs) 2486 [some (.ref (1000 + b)), some (.ref 176), some (.ref 192), some (.ref 202), some (.ref 203), some (.int (nI i)), none, none, none] [] h u := by
  obtain ⟨R9, TA, TB, hA, hB, hfin, hst⟩ := oq_audit (l := l) (G := G) hR hP
  refine g_aload_n dL_law_2486 rfl ?_
  refine g_callV (rest := []) lL_278 kX5_audit hA dL_law_2487 rfl rfl rfl rfl (ro_law (by decide) (by decide) (by decide) (by omega)) rfl (Nat.le_of_ble_eq_true rfl) (fun v h1 hq => ?_) (fun _ _ z => z.elim)
  obtain ⟨rfl, hTA, hfr⟩ := hq
  dsimp only [Option.toList, List.cons_append, List.nil_append]
  refine g_aload_n dL_law_2490 rfl ?_
  refine g_callV (rest := [.int R9]) lL_281 kX6_audit (hB h1 hfr) dL_law_2491 rfl rfl rfl rfl (ro_law (by decide) (by decide) (by decide) (by omega)) rfl (Nat.le_of_ble_eq_true rfl) (fun v h2 hq => ?_) (fun _ _ z => z.elim)
  obtain ⟨rfl, hTB, hfr2⟩ := hq
  dsimp only [Option.toList, List.cons_append, List.nil_append]
  exact g_icmp_eq (tgt := 2870) dL_law_2494 (by decide) (fun _ => K _ _ (by omega) (hfin _ (hst _ _ hTA (fun c hc j => hfr2 c (Or.inl hc) j)) hTB)) (fun c => absurd rfl c)
set_option maxRecDepth 100000 in
theorem cs_save {l : Launch} {G : ux_G} {hh : List (Nat × Nat × Nat × Nat)} {b Ln : Nat} {xs : Nat → Int32} {P : Nat} {h : ux_H} {i u : Nat} (hR : RLw P h) (hP : P + 13000 ≤ 10000000) (hi : i + 6 ≤ Ln) (hL : Ln ≤ 3072) (hu : u ≤ 90000) (K : ∀ h9 u9, u9 ≤ u + 5 → RLw (P + 13000) h9 → ux_W l G (iW hh) room_1 (lZ G b Ln xs) 2870 [some (.ref (1000 + b)), some (.ref 176), some (.ref 192), some (.ref 202), some (.ref 203), some (.int (nI i)), none, none, none] [] h9 u9) : ux_W l G (iW hh) room_1 (lZ G b Ln xs) 2813 [some (.ref (1000 + b)), some (.ref 176), some (.ref 192), some (.ref 202), some (.ref 203), some (.int (nI i)), none, none, none] [] h u := by
  obtain ⟨R9, TA, TB, hA, hB, hfin, hst⟩ := oq_save (l := l) (G := G) hR hP
  refine g_aload_n dL_law_2813 rfl ?_
  refine g_callV (rest := []) lL_301 kX5_save hA dL_law_2814 rfl rfl rfl rfl (ro_law (by decide) (by decide) (by decide) (by omega)) rfl (Nat.le_of_ble_eq_true rfl) (fun v h1 hq => ?_) (fun _ _ z => z.elim)
  obtain ⟨rfl, hTA, hfr⟩ := hq
  dsimp only [Option.toList, List.cons_append, List.nil_append]
  refine g_aload_n dL_law_2817 rfl ?_
  refine g_callV (rest := [.int R9]) lL_304 kX6_save (hB h1 hfr) dL_law_2818 rfl rfl rfl rfl (ro_law (by decide) (by decide) (by decide) (by omega)) rfl (Nat.le_of_ble_eq_true rfl) (fun v h2 hq => ?_) (fun _ _ z => z.elim)
  obtain ⟨rfl, hTB, hfr2⟩ := hq
  dsimp only [Option.toList, List.cons_append, List.nil_append]
  exact g_icmp_eq (tgt := 2870) dL_law_2821 (by decide) (fun _ => K _ _ (by omega) (hfin _ (hst _ _ hTA (fun c hc j => hfr2 c (Or.inl hc) j)) hTB)) (fun c => absurd rfl c)
theorem g_dstore7 {l : Launch} {G : ux_G} {hh : List (Nat × Nat × Nat × Nat)} {b : Nat} {R : Room} {Z : ux_Zt} {pc i K9 : Nat} {x : UInt64} {st : List Value} {h : ux_H} {u : Nat} (dd : decode cL_law pc = .ok (.dstore 7, 2)) (k : ux_W l G (iW hh) R Z (pc + 2) [some (.ref (1000 + b)), some (.ref 176), some (.ref 192), some (.ref 202), some (.ref 203), some (.int (nI i)), some (.int (nI K9)), some (.double x), none] st h u) : ux_W l G (iW hh) R Z pc [some (.ref (1000 + b)), some (.ref 176), some (.ref 192), some (.ref 202), some (.ref 203), some (.int (nI i)), some (.int (nI K9)), none, none] (.double x :: st) h u := by
  intro p e s m args below meth c H locs ls C hH hS hl
  refine lv_dstore C.1 C.2.1 dd hl (by show 7 + 1 < 9; decide) rfl (fun ls' hl' => ?_)
  exact k p e s m args below meth c H locs ls' C hH hS (ux_has hl' (fun q hq => by
    have e : ux_lv G 0 [some (.ref (1000 + b)), some (.ref 176), some (.ref 192), some (.ref 202), some (.ref 203), some (.int (nI i)), some (.int (nI K9)), some (.double x), none] = [(0, ux_cv G (.ref (1000 + b))), (1, ux_cv G (.ref 176)), (2, ux_cv G (.ref 192)), (3, ux_cv G (.ref 202)), (4, ux_cv G (.ref 203)), (5, ux_cv G (.int (nI i))), (6, ux_cv G (.int (nI K9))), (7, ux_cv G (.double x))] := rfl
    rw [e] at hq
    simp only [List.mem_cons, List.not_mem_nil, or_false] at hq
    rcases hq with rfl | rfl | rfl | rfl | rfl | rfl | rfl | rfl
    all_goals first | exact List.mem_cons_self | exact List.mem_cons_of_mem _ (List.mem_filter.mpr ⟨by simp [ux_lv], rfl⟩)))
theorem l_lessd {G : ux_G} {b K9 : Nat} {i : Int32} {x : UInt64} : ∀ q, q ∈ ux_lv G 0 [some (.ref (1000 + b)), some (.ref 176), some (.ref 192), some (.ref 202), some (.ref 203), some (.int i), none, none, none] → q ∈ ux_lv G 0 [some (.ref (1000 + b)), some (.ref 176), some (.ref 192), some (.ref 202), some (.ref 203), some (.int i), some (.int (nI K9)), some (.double x), none] := by
  intro q hq
  exact List.mem_append_left (bs := [(6, ux_cv G (.int (nI K9))), (7, ux_cv G (.double x))]) hq
set_option maxRecDepth 100000 in
theorem cs_averagePoints {l : Launch} {G : ux_G} {hh : List (Nat × Nat × Nat × Nat)} {b Ln : Nat} {xs : Nat → Int32} {P : Nat} {h : ux_H} {i u : Nat} (hR : RLw P h) (hP : P + 13000 ≤ 10000000) (hi : i + 6 ≤ Ln) (hL : Ln ≤ 3072) (hu : u ≤ 90000) (K : ∀ h9 u9, u9 ≤ u + 5 → RLw (P + 13000) h9 → ux_W l G (iW hh) room_1 (lZ G b Ln xs) 2870 [some (.ref (1000 + b)), some (.ref 176), some (.ref 192), some (.ref 202), some (.ref 203), some (.int (nI i)), none, none, none] [] h9 u9) : ux_W l G (iW hh) room_1 (lZ G b Ln xs) 2409 [some (.ref (1000 + b)), some (.ref 176), some (.ref 192), some (.ref 202), some (.ref 203), some (.int (nI i)), none, none, none] [] h u := by
  obtain ⟨K9, y, TA, TB, k100, hA, hB, hfin, hst⟩ := od_averagePoints (l := l) (G := G) (a := (xs (i + 1)).toInt) hR hP (i_rg _)
  refine g_aload_n dL_law_2409 rfl ?_
  refine g_scr (k := 1) dL_law_2410 dL_law_2411 dL_law_2413 dL_law_2414 dL_law_2415 rfl rfl rfl (by omega) hL ?_
  refine g_aload dL_law_2416 rfl ?_
  refine g_callSX (rest := []) lL_274 kL_averagePoints hA dL_law_2418 (List.cons_ne_nil _ _) rfl (ro_law (by decide) (by decide) (by decide) (by omega)) rfl (Nat.le_of_ble_eq_true rfl) (fun v h1 hq => ?_) (fun _ _ z => z.elim)
  obtain ⟨rfl, hout, hTA, hfr⟩ := hq
  dsimp only [Option.toList, List.cons_append, List.nil_append]
  refine s_iw dL_law_2421 rfl rfl rfl ?_
  dsimp only [List.set]
  refine g_aload_n dL_law_2423 rfl ?_
  refine g_scr (k := 1) dL_law_2424 dL_law_2425 dL_law_2427 dL_law_2428 dL_law_2429 rfl rfl rfl (by omega) hL ?_
  refine g_callV (rest := []) lL_277 kX6_averagePoints (hB h1 hfr) dL_law_2430 rfl rfl rfl rfl (ro_law (by decide) (by decide) (by decide) (by omega)) rfl (Nat.le_of_ble_eq_true rfl) (fun v h2 hq => ?_) (fun _ _ z => z.elim)
  obtain ⟨⟨x, rfl, hx⟩, h0, hTB, hfr2⟩ := hq
  dsimp only [Option.toList, List.cons_append, List.nil_append]
  refine g_dstore7 dL_law_2433 ?_
  have hend := K h2 (u + 1 + 0) (by omega) (hfin _ (hst _ _ hTA (fun c hc j => hfr2 c (Or.inl hc) j)) hTB)
  have hg : ux_W l G (iW hh) room_1 (lZ G b Ln xs) 2483 [some (.ref (1000 + b)), some (.ref 176), some (.ref 192), some (.ref 202), some (.ref 203), some (.int (nI i)), some (.int (nI K9)), some (.double x), none] [] h2 (u + 1 + 0) := g_goto (tgt := 2870) dL_law_2483 (by decide) (g_less l_lessd hend)
  refine g_aload_n dL_law_2435 rfl ?_
  refine f_V (u' := u + 1 + 0) (av := []) (rest := []) lL_168 kX6_thrown mX6_thrown dL_law_2436 rfl rfl rfl rfl rfl (ro_law (by decide) (by decide) (by decide) (by omega)) rfl rfl ?_
  dsimp only [Option.toList, List.cons_append, List.nil_append]
  refine g_top h0 ?_
  refine g_iload dL_law_2439 rfl ?_
  refine g_icmp_eq (tgt := 2446) dL_law_2441 (by decide) (fun _ => ?_) (fun c => absurd rfl c)
  refine g_iload dL_law_2446 rfl ?_
  refine g_if_ne (tgt := 2483) dL_law_2448 (by decide) (fun _ => hg) (fun c => ?_)
  have k0 := nI_0K k100 c
  have ex : x = y := hx k0
  subst ex
  have eo : xgd h2 203 0 = x := by unfold xgd; rw [hfr2 203 (Or.inr (by decide)) 0, hout k0]
  refine g_aload dL_law_2451 rfl ?_
  refine g_iconst (v := 0) dL_law_2453 rfl ?_
  refine g_dald dL_law_2454 rfl (show 0 < 1 by decide) rfl ?_
  rw [eo]
  refine g_dload dL_law_2455 rfl ?_
  refine g_dcmp dL_law_2457 ?_
  refine g_if_eq (tgt := 2483) dL_law_2458 (by decide) (fun _ => hg) (fun cn => ?_)
  refine g_aload dL_law_2461 rfl ?_
  refine g_iconst (v := 0) dL_law_2463 rfl ?_
  refine g_dald dL_law_2464 rfl (show 0 < 1 by decide) rfl ?_
  rw [eo]
  refine g_aload dL_law_2465 rfl ?_
  refine g_iconst (v := 0) dL_law_2467 rfl ?_
  refine g_dald dL_law_2468 rfl (show 0 < 1 by decide) rfl ?_
  rw [eo]
  refine g_dcmp dL_law_2469 ?_
  refine g_if_eq (tgt := 2481) dL_law_2470 (by decide) (fun c2 => absurd c2 cn) (fun _ => ?_)
  refine g_dload dL_law_2473 rfl ?_
  refine g_dload dL_law_2475 rfl ?_
  refine g_dcmp dL_law_2477 ?_
  exact g_if_ne (tgt := 2483) dL_law_2478 (by decide) (fun _ => hg) (fun c2 => absurd c2 cn)
theorem RLw_mono {P P2 : Nat} {h : ux_H} (hR : RLw P h) (h1 : P ≤ P2) (h2 : P2 ≤ 10000000) : RLw P2 h := by
  obtain ⟨A, Hs, sv, S, L, e9, r9, hI, hA, hB⟩ := hR
  exact ⟨A, Hs, sv, S, L, e9, r9, RI_mono hI h1 h2, hA, hB⟩
/-- the law's end -/
theorem g_lend {l : Launch} {G : ux_G} {hh : List (Nat × Nat × Nat × Nat)} {b Ln : Nat} {xs : Nat → Int32} {L : List (Option Value)} {h : ux_H} {u : Nat} (hu : u ≤ 100000) : ux_W l G (iW hh) room_1 (lZ G b Ln xs) 2877 L [.int 1] h u := by
  refine g_lfx (fun p e s m args below meth c H locs ls hf C hH hS hl => ?_)
  obtain ⟨rfl, f2, f3, f4⟩ := hf
  have hb : ∀ q ∈ locs, s.heap.size ≤ q.base := fun q hq => by
    have z : G.1 ≤ q.base := hS.2.2 q hq
    omega
  have key : W p l e room_1 s m #[Value.ref b] below meth c H locs u (6 * u) (lw_Z below #[Value.ref b] s) (F0 m 2877 ls [.int 1]) := by
    refine va_forget hb ?_
    refine W.widen (k := 603072) (n := 7198826) (by omega) (by omega) ?_
    refine W.base ?_
    exact lw_ret (Drawn.sameBut.refl s.drawn lw_cs) C.1 C.2.1 C.2.2.2.2.2.2.1 C.2.2.2.2.2.1 dL_law_2877
  intro T hT X
  obtain ⟨t, a1, b1⟩ := key T hT X
  exact ⟨t, a1, fun _ => b1⟩
set_option maxRecDepth 100000 in
theorem lw_loop {l : Launch} {G : ux_G} {hh : List (Nat × Nat × Nat × Nat)} {b Ln : Nat} {xs : Nat → Int32} (hL : Ln ≤ 3072) : ∀ (n t : Nat) (h : ux_H) (u : Nat), RLw (13000 * t) h → 6 * t ≤ Ln → u ≤ 2000 + 5 * t → Ln + 6 - 6 * t < n → ux_W l G (iW hh) room_1 (lZ G b Ln xs) 28 [some (.ref (1000 + b)), some (.ref 176), some (.ref 192), some (.ref 202), some (.ref 203), some (.int (nI (6 * t))), none, none, none] [] h u := by
  intro n
  induction n with
  | zero => intro t h u _ _ _ hn; exact absurd hn (Nat.not_lt_zero _)
  | succ n ih =>
    intro t h u hR ht hu hn
    refine g_iload dL_law_28 rfl ?_
    refine g_aload_n dL_law_30 rfl ?_
    refine g_slen dL_law_31 ?_
    refine g_bipush (v := 6) dL_law_32 rfl ?_
    refine g_isub dL_law_34 ?_
    have e6 : nI Ln - 6 = iI ((Ln : Int) - 6) := by rw [show (6 : Int32) = iI 6 by decide, ← iI_n, iI_sub]
    have ei : nI (6 * t) = iI ((6 * t : Nat) : Int) := (iI_n _).symm
    refine g_icmp_gt (tgt := 2876) dL_law_35 (by decide) (fun _ => ?_) (fun c => ?_)
    · refine g_iconst (v := 1) dL_law_2876 rfl ?_
      exact g_lend (by omega)
    · rw [e6, ei, iI_lt (by omega) (by omega) (by omega) (by omega)] at c
      have hi : 6 * t + 6 ≤ Ln := by omega
      have K : ∀ h9 u9, u9 ≤ u + 5 → RLw (13000 * t + 13000) h9 → ux_W l G (iW hh) room_1 (lZ G b Ln xs) 2870 [some (.ref (1000 + b)), some (.ref 176), some (.ref 192), some (.ref 202), some (.ref 203), some (.int (nI (6 * t))), none, none, none] [] h9 u9 := by
        intro h9 u9 hu9 hR9
        refine s_inc (v := nI (6 * (t + 1))) dL_law_2870 rfl (by rw [show Int32.ofInt 6 = nI 6 by decide, nI_add]; rfl) rfl rfl rfl ?_
        dsimp only [List.set]
        refine g_goto (tgt := 28) dL_law_2873 (by decide) ?_
        exact ih (t + 1) h9 u9 (by rw [Nat.mul_succ]; exact hR9) (by omega) (by omega) (by omega)
      have hP : 13000 * t + 13000 ≤ 10000000 := by omega
      have hu9 : u ≤ 90000 := by omega
      refine g_aload_n dL_law_38 rfl ?_
      refine g_iload dL_law_39 rfl ?_
      refine g_sld dL_law_41 rfl (show 6 * t < Ln by omega) hL ?_
      refine g_bipush (v := 63) dL_law_42 rfl ?_
      refine g_iand dL_law_44 ?_
      rw [← iI_self (xs (6 * t) &&& 63)]
      have rv := i_rg (xs (6 * t) &&& 63)
      generalize (xs (6 * t) &&& 63).toInt = v at rv ⊢
      rcases Decidable.em (0 ≤ v ∧ v ≤ 43) with qsw | qsw
      · obtain qv | qv | qv | qv | qv | qv | qv | qv | qv | qv | qv | qv | qv | qv | qv | qv | qv | qv | qv | qv | qv | qv | qv | qv | qv | qv | qv | qv | qv | qv | qv | qv | qv | qv | qv | qv | qv | qv | qv | qv | qv | qv | qv | qv : v = 0 ∨ v = 1 ∨ v = 2 ∨ v = 3 ∨ v = 4 ∨ v = 5 ∨ v = 6 ∨ v = 7 ∨ v = 8 ∨ v = 9 ∨ v = 10 ∨ v = 11 ∨ v = 12 ∨ v = 13 ∨ v = 14 ∨ v = 15 ∨ v = 16 ∨ v = 17 ∨ v = 18 ∨ v = 19 ∨ v = 20 ∨ v = 21 ∨ v = 22 ∨ v = 23 ∨ v = 24 ∨ v = 25 ∨ v = 26 ∨ v = 27 ∨ v = 28 ∨ v = 29 ∨ v = 30 ∨ v = 31 ∨ v = 32 ∨ v = 33 ∨ v = 34 ∨ v = 35 ∨ v = 36 ∨ v = 37 ∨ v = 38 ∨ v = 39 ∨ v = 40 ∨ v = 41 ∨ v = 42 ∨ v = 43 := by omega
        · rw [qv]
          refine g_tableIn (off := 191) (tgt := 236) dL_law_45 (by decide) (by decide) rfl (by decide) ?_
          exact cs_clear hR hP hi hL hu9 K
        · rw [qv]
          refine g_tableIn (off := 204) (tgt := 249) dL_law_45 (by decide) (by decide) rfl (by decide) ?_
          exact cs_addTeacher hR hP hi hL hu9 K
        · rw [qv]
          refine g_tableIn (off := 272) (tgt := 317) dL_law_45 (by decide) (by decide) rfl (by decide) ?_
          exact cs_setLimit hR hP hi hL hu9 K
        · rw [qv]
          refine g_tableIn (off := 340) (tgt := 385) dL_law_45 (by decide) (by decide) rfl (by decide) ?_
          exact cs_setSize hR hP hi hL hu9 K
        · rw [qv]
          refine g_tableIn (off := 408) (tgt := 453) dL_law_45 (by decide) (by decide) rfl (by decide) ?_
          exact cs_setCapacity hR hP hi hL hu9 K
        · rw [qv]
          refine g_tableIn (off := 476) (tgt := 521) dL_law_45 (by decide) (by decide) rfl (by decide) ?_
          exact cs_addLesson hR hP hi hL hu9 K
        · rw [qv]
          refine g_tableIn (off := 580) (tgt := 625) dL_law_45 (by decide) (by decide) rfl (by decide) ?_
          exact cs_removeLesson hR hP hi hL hu9 K
        · rw [qv]
          refine g_tableIn (off := 636) (tgt := 681) dL_law_45 (by decide) (by decide) rfl (by decide) ?_
          exact cs_setRoom hR hP hi hL hu9 K
        · rw [qv]
          refine g_tableIn (off := 704) (tgt := 749) dL_law_45 (by decide) (by decide) rfl (by decide) ?_
          exact cs_count hR hP hi hL hu9 K
        · rw [qv]
          refine g_tableIn (off := 760) (tgt := 805) dL_law_45 (by decide) (by decide) rfl (by decide) ?_
          exact cs_lesson hR hP hi hL hu9 K
        · rw [qv]
          refine g_tableIn (off := 828) (tgt := 873) dL_law_45 (by decide) (by decide) rfl (by decide) ?_
          exact cs_teacher hR hP hi hL hu9 K
        · rw [qv]
          refine g_tableIn (off := 896) (tgt := 941) dL_law_45 (by decide) (by decide) rfl (by decide) ?_
          exact cs_lessonOf hR hP hi hL hu9 K
        · rw [qv]
          refine g_tableIn (off := 964) (tgt := 1009) dL_law_45 (by decide) (by decide) rfl (by decide) ?_
          exact cs_setAbsent hR hP hi hL hu9 K
        · rw [qv]
          refine g_tableIn (off := 1060) (tgt := 1105) dL_law_45 (by decide) (by decide) rfl (by decide) ?_
          exact cs_absent hR hP hi hL hu9 K
        · rw [qv]
          refine g_tableIn (off := 1128) (tgt := 1173) dL_law_45 (by decide) (by decide) rfl (by decide) ?_
          exact cs_free hR hP hi hL hu9 K
        · rw [qv]
          refine g_tableIn (off := 1196) (tgt := 1241) dL_law_45 (by decide) (by decide) rfl (by decide) ?_
          exact cs_freeRooms hR hP hi hL hu9 K
        · rw [qv]
          refine g_tableIn (off := 1252) (tgt := 1297) dL_law_45 (by decide) (by decide) rfl (by decide) ?_
          exact cs_openOn hR hP hi hL hu9 K
        · rw [qv]
          refine g_tableIn (off := 1308) (tgt := 1353) dL_law_45 (by decide) (by decide) rfl (by decide) ?_
          exact cs_open hR hP hi hL hu9 K
        · rw [qv]
          refine g_tableIn (off := 1376) (tgt := 1421) dL_law_45 (by decide) (by decide) rfl (by decide) ?_
          exact cs_why hR hP hi hL hu9 K
        · rw [qv]
          refine g_tableIn (off := 1444) (tgt := 1489) dL_law_45 (by decide) (by decide) rfl (by decide) ?_
          exact cs_points hR hP hi hL hu9 K
        · rw [qv]
          refine g_tableIn (off := 1512) (tgt := 1557) dL_law_45 (by decide) (by decide) rfl (by decide) ?_
          exact cs_suggestion hR hP hi hL hu9 K
        · rw [qv]
          refine g_tableIn (off := 1568) (tgt := 1613) dL_law_45 (by decide) (by decide) rfl (by decide) ?_
          exact cs_cover hR hP hi hL hu9 K
        · rw [qv]
          refine g_tableIn (off := 1636) (tgt := 1681) dL_law_45 (by decide) (by decide) rfl (by decide) ?_
          exact cs_uncover hR hP hi hL hu9 K
        · rw [qv]
          refine g_tableIn (off := 1692) (tgt := 1737) dL_law_45 (by decide) (by decide) rfl (by decide) ?_
          exact cs_split hR hP hi hL hu9 K
        · rw [qv]
          refine g_tableIn (off := 1772) (tgt := 1817) dL_law_45 (by decide) (by decide) rfl (by decide) ?_
          exact cs_unsplit hR hP hi hL hu9 K
        · rw [qv]
          refine g_tableIn (off := 1828) (tgt := 1873) dL_law_45 (by decide) (by decide) rfl (by decide) ?_
          exact cs_host hR hP hi hL hu9 K
        · rw [qv]
          refine g_tableIn (off := 1912) (tgt := 1957) dL_law_45 (by decide) (by decide) rfl (by decide) ?_
          exact cs_refusal hR hP hi hL hu9 K
        · rw [qv]
          refine g_tableIn (off := 1956) (tgt := 2001) dL_law_45 (by decide) (by decide) rfl (by decide) ?_
          exact cs_coverDay hR hP hi hL hu9 K
        · rw [qv]
          refine g_tableIn (off := 2012) (tgt := 2057) dL_law_45 (by decide) (by decide) rfl (by decide) ?_
          exact cs_spread hR hP hi hL hu9 K
        · rw [qv]
          refine g_tableIn (off := 2056) (tgt := 2101) dL_law_45 (by decide) (by decide) rfl (by decide) ?_
          exact cs_extreme hR hP hi hL hu9 K
        · rw [qv]
          refine g_tableIn (off := 2128) (tgt := 2173) dL_law_45 (by decide) (by decide) rfl (by decide) ?_
          exact cs_plannedSpread hR hP hi hL hu9 K
        · rw [qv]
          refine g_tableIn (off := 2184) (tgt := 2229) dL_law_45 (by decide) (by decide) rfl (by decide) ?_
          exact cs_planned hR hP hi hL hu9 K
        · rw [qv]
          refine g_tableIn (off := 2252) (tgt := 2297) dL_law_45 (by decide) (by decide) rfl (by decide) ?_
          exact cs_carryOut hR hP hi hL hu9 K
        · rw [qv]
          refine g_tableIn (off := 2308) (tgt := 2353) dL_law_45 (by decide) (by decide) rfl (by decide) ?_
          exact cs_plans hR hP hi hL hu9 K
        · rw [qv]
          refine g_tableIn (off := 2364) (tgt := 2409) dL_law_45 (by decide) (by decide) rfl (by decide) ?_
          exact cs_averagePoints hR hP hi hL hu9 K
        · rw [qv]
          refine g_tableIn (off := 2441) (tgt := 2486) dL_law_45 (by decide) (by decide) rfl (by decide) ?_
          exact cs_audit hR hP hi hL hu9 K
        · rw [qv]
          refine g_tableIn (off := 2454) (tgt := 2499) dL_law_45 (by decide) (by decide) rfl (by decide) ?_
          exact cs_lost hR hP hi hL hu9 K
        · rw [qv]
          refine g_tableIn (off := 2510) (tgt := 2555) dL_law_45 (by decide) (by decide) rfl (by decide) ?_
          exact cs_append hR hP hi hL hu9 K
        · rw [qv]
          refine g_tableIn (off := 2568) (tgt := 2613) dL_law_45 (by decide) (by decide) rfl (by decide) ?_
          exact cs_read hR hP hi hL hu9 K
        · rw [qv]
          refine g_tableIn (off := 2612) (tgt := 2657) dL_law_45 (by decide) (by decide) rfl (by decide) ?_
          exact cs_errorPosition hR hP hi hL hu9 K
        · rw [qv]
          refine g_tableIn (off := 2656) (tgt := 2701) dL_law_45 (by decide) (by decide) rfl (by decide) ?_
          exact cs_describe hR hP hi hL hu9 K
        · rw [qv]
          refine g_tableIn (off := 2724) (tgt := 2769) dL_law_45 (by decide) (by decide) rfl (by decide) ?_
          exact cs_undo hR hP hi hL hu9 K
        · rw [qv]
          refine g_tableIn (off := 2768) (tgt := 2813) dL_law_45 (by decide) (by decide) rfl (by decide) ?_
          exact cs_save hR hP hi hL hu9 K
        · rw [qv]
          refine g_tableIn (off := 2781) (tgt := 2826) dL_law_45 (by decide) (by decide) rfl (by decide) ?_
          exact cs_restore hR hP hi hL hu9 K
      · refine g_tableOut (tgt := 2870) dL_law_45 (by rw [iI_t rv.1 rv.2]; omega) (by decide) ?_
        exact K h u (by omega) (RLw_mono hR (by omega) hP)
