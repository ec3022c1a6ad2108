/-! String.charAt of the one text that the reference reads. -/
abbrev iJ0c : ux_I := (cJ0_charAt_5068e, 2, RJ0, some .char, [])
abbrev iJ0l : ux_I := (cJ0_isLatin1_aae02, 1, RJ0, some .boolean, [])
abbrev iJ0k : ux_I := (cJ0_checkIndex_df160, 2, RJ0, none, [])
abbrev iJ1c : ux_I := (cJ1_charAt_3b067, 2, RJ1, some .char, [])
abbrev iJ3k : ux_I := (cJ3_checkIndex_8e157, 3, RJ3, some .int, [])
theorem kJ0c : ux_lk yJ0_charAt_5068e iJ0c 1 := ⟨ux_mem (n := 1799) (by decide +kernel) (by decide +kernel), ux_mem (n := 152) (by decide +kernel) (by decide +kernel), ⟨by decide +kernel, by decide +kernel⟩, by decide +kernel, by decide +kernel, rfl⟩
theorem kJ0l : ux_lk yJ0_isLatin1_aae02 iJ0l 0 := ⟨ux_mem (n := 1803) (by decide +kernel) (by decide +kernel), ux_mem (n := 152) (by decide +kernel) (by decide +kernel), ⟨by decide +kernel, by decide +kernel⟩, by decide +kernel, by decide +kernel, rfl⟩
theorem kJ0k : ux_lk yJ0_checkIndex_df160 iJ0k 2 := ⟨ux_mem (n := 1811) (by decide +kernel) (by decide +kernel), ux_mem (n := 152) (by decide +kernel) (by decide +kernel), ⟨by decide +kernel, by decide +kernel⟩, by decide +kernel, by decide +kernel, rfl⟩
theorem kJ1c : ux_lk yJ1_charAt_3b067 iJ1c 2 := ⟨ux_mem (n := 1808) (by decide +kernel) (by decide +kernel), ux_mem (n := 157) (by decide +kernel) (by decide +kernel), ⟨by decide +kernel, by decide +kernel⟩, by decide +kernel, by decide +kernel, rfl⟩
theorem kJ3k : ux_lk yJ3_checkIndex_8e157 iJ3k 3 := ⟨ux_mem (n := 1816) (by decide +kernel) (by decide +kernel), ux_mem (n := 158) (by decide +kernel) (by decide +kernel), ⟨by decide +kernel, by decide +kernel⟩, by decide +kernel, by decide +kernel, rfl⟩
theorem lJ_V255 : ux_lV RX6 255 yJ0_charAt_5068e := ⟨ux_mem (n := 1796) (by decide +kernel) (by decide +kernel), ux_mem (n := 1797) (by decide +kernel) (by decide +kernel), ux_mem (n := 1798) (by decide +kernel) (by decide +kernel)⟩
theorem lJ_V492 : ux_lV RJ0 492 yJ0_isLatin1_aae02 := ⟨ux_mem (n := 1800) (by decide +kernel) (by decide +kernel), ux_mem (n := 1801) (by decide +kernel) (by decide +kernel), ux_mem (n := 1802) (by decide +kernel) (by decide +kernel)⟩
theorem lJ_S495 : ux_lS RJ0 495 yJ1_charAt_3b067 := ⟨ux_mem (n := 1806) (by decide +kernel) (by decide +kernel), ux_mem (n := 1807) (by decide +kernel) (by decide +kernel)⟩
theorem lJ_S9 : ux_lS RJ1 9 yJ0_checkIndex_df160 := ⟨ux_mem (n := 1809) (by decide +kernel) (by decide +kernel), ux_mem (n := 1810) (by decide +kernel) (by decide +kernel)⟩
theorem lJ_S1059 : ux_lS RJ0 1059 yJ3_checkIndex_8e157 := ⟨ux_mem (n := 1814) (by decide +kernel) (by decide +kernel), ux_mem (n := 1815) (by decide +kernel) (by decide +kernel)⟩
theorem fJ_38 : Cond.fieldLink RJ0 38 "java/lang/String" "COMPACT_STRINGS" "Z" ∈ ux_T := ux_mem (n := 1804) (by decide +kernel) (by decide +kernel)
theorem fJ_1053 : Cond.fieldLink RJ0 1053 "jdk/internal/util/Preconditions" "SIOOBE_FORMATTER" "Ljava/util/function/BiFunction;" ∈ ux_T := ux_mem (n := 1812) (by decide +kernel) (by decide +kernel)
theorem fJ_15 : Cond.fieldLink RJ0 15 "java/lang/String" "coder" "B" ∈ ux_T := ux_mem (n := 1868) (by decide +kernel) (by decide +kernel)
theorem fJ_9 : Cond.fieldLink RJ0 9 "java/lang/String" "value" "[B" ∈ ux_T := ux_mem (n := 1869) (by decide +kernel) (by decide +kernel)
theorem dJ0_charAt_5068e_0 : decode cJ0_charAt_5068e 0 = .ok (.aload_n 0, 1) := by decide +kernel
theorem dJ0_charAt_5068e_1 : decode cJ0_charAt_5068e 1 = .ok (.invokevirtual 492, 3) := by decide +kernel
theorem dJ0_charAt_5068e_4 : decode cJ0_charAt_5068e 4 = .ok (.ifCond .eq 12, 3) := by decide +kernel
theorem dJ0_charAt_5068e_7 : decode cJ0_charAt_5068e 7 = .ok (.aload_n 0, 1) := by decide +kernel
theorem dJ0_charAt_5068e_8 : decode cJ0_charAt_5068e 8 = .ok (.getfield 9, 3) := by decide +kernel
theorem dJ0_charAt_5068e_11 : decode cJ0_charAt_5068e 11 = .ok (.iload_n 1, 1) := by decide +kernel
theorem dJ0_charAt_5068e_12 : decode cJ0_charAt_5068e 12 = .ok (.invokestatic 495, 3) := by decide +kernel
theorem dJ0_charAt_5068e_15 : decode cJ0_charAt_5068e 15 = .ok (.ireturn, 1) := by decide +kernel
theorem dJ0_charAt_5068e_16 : decode cJ0_charAt_5068e 16 = .ok (.aload_n 0, 1) := by decide +kernel
theorem dJ0_charAt_5068e_17 : decode cJ0_charAt_5068e 17 = .ok (.getfield 9, 3) := by decide +kernel
theorem dJ0_charAt_5068e_20 : decode cJ0_charAt_5068e 20 = .ok (.iload_n 1, 1) := by decide +kernel
theorem dJ0_charAt_5068e_21 : decode cJ0_charAt_5068e 21 = .ok (.invokestatic 498, 3) := by decide +kernel
theorem dJ0_charAt_5068e_24 : decode cJ0_charAt_5068e 24 = .ok (.ireturn, 1) := by decide +kernel
theorem dJ0_isLatin1_aae02_0 : decode cJ0_isLatin1_aae02 0 = .ok (.getstatic 38, 3) := by decide +kernel
theorem dJ0_isLatin1_aae02_3 : decode cJ0_isLatin1_aae02 3 = .ok (.ifCond .eq 14, 3) := by decide +kernel
theorem dJ0_isLatin1_aae02_6 : decode cJ0_isLatin1_aae02 6 = .ok (.aload_n 0, 1) := by decide +kernel
theorem dJ0_isLatin1_aae02_7 : decode cJ0_isLatin1_aae02 7 = .ok (.getfield 15, 3) := by decide +kernel
theorem dJ0_isLatin1_aae02_10 : decode cJ0_isLatin1_aae02 10 = .ok (.ifCond .ne 7, 3) := by decide +kernel
theorem dJ0_isLatin1_aae02_13 : decode cJ0_isLatin1_aae02 13 = .ok (.iconst 1, 1) := by decide +kernel
theorem dJ0_isLatin1_aae02_14 : decode cJ0_isLatin1_aae02 14 = .ok (.goto 4, 3) := by decide +kernel
theorem dJ0_isLatin1_aae02_17 : decode cJ0_isLatin1_aae02 17 = .ok (.iconst 0, 1) := by decide +kernel
theorem dJ0_isLatin1_aae02_18 : decode cJ0_isLatin1_aae02 18 = .ok (.ireturn, 1) := by decide +kernel
theorem dJ0_checkIndex_df160_0 : decode cJ0_checkIndex_df160 0 = .ok (.iload_n 0, 1) := by decide +kernel
theorem dJ0_checkIndex_df160_1 : decode cJ0_checkIndex_df160 1 = .ok (.iload_n 1, 1) := by decide +kernel
theorem dJ0_checkIndex_df160_2 : decode cJ0_checkIndex_df160 2 = .ok (.getstatic 1053, 3) := by decide +kernel
theorem dJ0_checkIndex_df160_5 : decode cJ0_checkIndex_df160 5 = .ok (.invokestatic 1059, 3) := by decide +kernel
theorem dJ0_checkIndex_df160_8 : decode cJ0_checkIndex_df160 8 = .ok (.pop, 1) := by decide +kernel
theorem dJ0_checkIndex_df160_9 : decode cJ0_checkIndex_df160 9 = .ok (.return_, 1) := by decide +kernel
theorem dJ1_charAt_3b067_0 : decode cJ1_charAt_3b067 0 = .ok (.iload_n 1, 1) := by decide +kernel
theorem dJ1_charAt_3b067_1 : decode cJ1_charAt_3b067 1 = .ok (.aload_n 0, 1) := by decide +kernel
theorem dJ1_charAt_3b067_2 : decode cJ1_charAt_3b067 2 = .ok (.arraylength, 1) := by decide +kernel
theorem dJ1_charAt_3b067_3 : decode cJ1_charAt_3b067 3 = .ok (.invokestatic 9, 3) := by decide +kernel
theorem dJ1_charAt_3b067_6 : decode cJ1_charAt_3b067 6 = .ok (.aload_n 0, 1) := by decide +kernel
theorem dJ1_charAt_3b067_7 : decode cJ1_charAt_3b067 7 = .ok (.iload_n 1, 1) := by decide +kernel
theorem dJ1_charAt_3b067_8 : decode cJ1_charAt_3b067 8 = .ok (.baload, 1) := by decide +kernel
theorem dJ1_charAt_3b067_9 : decode cJ1_charAt_3b067 9 = .ok (.sipush 255, 3) := by decide +kernel
theorem dJ1_charAt_3b067_12 : decode cJ1_charAt_3b067 12 = .ok (.iand, 1) := by decide +kernel
theorem dJ1_charAt_3b067_13 : decode cJ1_charAt_3b067 13 = .ok (.i2c, 1) := by decide +kernel
theorem dJ1_charAt_3b067_14 : decode cJ1_charAt_3b067 14 = .ok (.ireturn, 1) := by decide +kernel
theorem dJ3_checkIndex_8e157_0 : decode cJ3_checkIndex_8e157 0 = .ok (.iload_n 0, 1) := by decide +kernel
theorem dJ3_checkIndex_8e157_1 : decode cJ3_checkIndex_8e157 1 = .ok (.ifCond .lt 8, 3) := by decide +kernel
theorem dJ3_checkIndex_8e157_4 : decode cJ3_checkIndex_8e157 4 = .ok (.iload_n 0, 1) := by decide +kernel
theorem dJ3_checkIndex_8e157_5 : decode cJ3_checkIndex_8e157 5 = .ok (.iload_n 1, 1) := by decide +kernel
theorem dJ3_checkIndex_8e157_6 : decode cJ3_checkIndex_8e157 6 = .ok (.if_icmp .lt 10, 3) := by decide +kernel
theorem dJ3_checkIndex_8e157_9 : decode cJ3_checkIndex_8e157 9 = .ok (.aload_n 2, 1) := by decide +kernel
theorem dJ3_checkIndex_8e157_10 : decode cJ3_checkIndex_8e157 10 = .ok (.iload_n 0, 1) := by decide +kernel
theorem dJ3_checkIndex_8e157_11 : decode cJ3_checkIndex_8e157 11 = .ok (.iload_n 1, 1) := by decide +kernel
theorem dJ3_checkIndex_8e157_12 : decode cJ3_checkIndex_8e157 12 = .ok (.invokestatic 95, 3) := by decide +kernel
theorem dJ3_checkIndex_8e157_15 : decode cJ3_checkIndex_8e157 15 = .ok (.athrow, 1) := by decide +kernel
theorem dJ3_checkIndex_8e157_16 : decode cJ3_checkIndex_8e157 16 = .ok (.iload_n 0, 1) := by decide +kernel
theorem dJ3_checkIndex_8e157_17 : decode cJ3_checkIndex_8e157 17 = .ok (.ireturn, 1) := by decide +kernel
/-- the method's end, told of starts with facts only -/
def ux_fZ (F : State → Prop) (Z : ux_Zt) : ux_Zt := fun args s below t => F s → Z args s below t
section UXK
variable {l : Launch} {G : ux_G} {mi : ux_I} {R : Room} {Z : ux_Zt} {pc : Nat} {L : List (Option Value)} {st : List Value} {h : ux_H} {u : Nat}
theorem g_fx {F : State → Prop} (n : ∀ p e s m args below meth c H locs ls, F s → ux_C l G mi p s m args meth c → ux_hw G h H → va_S (ux_A G) s.heap H locs → lv_has ls mi.2.1 (ux_lv G 0 L) → W p l e R s m args below meth c H locs u (6 * u) (ux_fZ F Z args s below) (F0 m pc ls (st.map (ux_cv G)))) : ux_W l G mi R (ux_fZ F Z) pc L st h u := by
  intro p e s m args below meth c H locs ls C hH hS hl
  by_cases hf : F s
  · exact n p e s m args below meth c H locs ls hf C hH hS hl
  · intro T hT X
    exact ⟨_, Steps.refl _, fun q => absurd q hf⟩
/-- the text and its bytes -/
def ux_sf (G : ux_G) (aK aV : Nat) (U : State) : Prop := vk_S 1 [4] [[99, 115, 112, 114]] (fun _ => aK) (fun _ => aV) (ux_A G) U U.heap
theorem ux_sf_on {G : ux_G} {aK aV : Nat} {s U : State} {H : Heap} {locs : List Loc} (h : ux_sf G aK aV s) (hS : va_S (ux_A G) s.heap H locs) (hU : U.heap = H) (hW : s.WarmedH U.vm) : ux_sf G aK aV U := by
  unfold ux_sf
  rw [hU]
  exact vk_S.moved hW.alike (vk_S.kept h hS.2.1)
def ux_Pf (l : Launch) (G : ux_G) (F : State → Prop) (av : List Value) (h : ux_H) : Array Value → State → Prop := va_Pc (av.map (ux_cv G)) (fun U => (ux_wf l G U ∧ ux_hw G h U.heap) ∧ F U)
theorem ux_Pf_blind {l : Launch} {G : ux_G} {aK aV : Nat} {av : List Value} {h : ux_H} : FrameBlind (ux_Pf l G (ux_sf G aK aV) av h) := by
  rintro a U g mk ⟨e, ⟨hw, hh⟩, hf⟩
  exact ⟨e, ⟨ux_wf.blind (U := U) (V := U.calling g mk a) rfl rfl hw, hh⟩, hf⟩
def ux_MF (l : Launch) (G : ux_G) (F : State → Prop) (y : MethodName) (mi : ux_I) (d k : Nat) (av : List Value) (h : ux_H) (Q : Option Value → ux_H → Prop) (X : String → ux_H → Prop) : Prop :=
  vx_Met l y (ux_cw y mi :: ux_T) (ux_rm d k) (ux_Pf l G F av h) (ux_Qc G Q) (ux_Xc G X) k (6 * k) (ux_A G)
theorem ux_entF {F : State → Prop} {y : MethodName} {n d k : Nat} {av : List Value} {Q : Option Value → ux_H → Prop} {X : String → ux_H → Prop} {L' : List (Option Value)} (lk : ux_lk y mi n) (hh : mi.2.2.2.2 = []) (hv : av.all (fun v => v.category == 1) = true) (hn : Nat.ble av.length mi.2.1 = true) (e : ux_L0 mi.2.1 av = L') (body : ux_W l G mi (ux_rm d k) (ux_fZ F (ux_Z G k Q X)) 0 L' [] h 0) : ux_MF l G F y mi d k av h Q X := by
  subst e
  obtain ⟨k1, k2, k3, k4, k5, k6⟩ := lk
  have hcw : ux_cw y mi = .code y mi.1 mi.2.1 mi.2.2.2.1 := by unfold ux_cw; rw [hh]
  refine vx_ofW (cc := mi.1) (maxL := mi.2.1) (ret := mi.2.2.2.1) (ws' := ux_T) k5 (by rw [hcw]) ?_
  intro p e s m args below meth c s₁ B hml ht hP
  obtain ⟨rfl, ⟨hw, hH⟩, hf⟩ := hP
  have hts := atoms_spec (ws := ux_cw y mi :: ux_T) B.pre
  obtain ⟨ls, e1, e2⟩ := ux_entry (G := G) (y := y) (m := m) (fun v q => by simpa using List.all_eq_true.mp hv v q) (Nat.le_of_ble_eq_true hn)
  rw [e1]
  have htab : c.exceptionTable.toList = tableOf mi.2.2.2.2 := by
    rw [hh]
    show c.exceptionTable.toList = []
    exact List.eq_nil_iff_forall_not_mem.mpr (fun x z => ht x z)
  have hb := body p e s m _ below meth c s.heap [] ls ⟨B.exec, B.bytes, hml, by rw [k6]; exact findClass_of_methodNamed B.named, fun w z => hts w (List.mem_cons_of_mem _ z), B.notSynchronized, B.returns, htab, hw⟩ hH va_S.rf e2
  intro T hT X
  obtain ⟨t, a1, b1⟩ := hb T hT X
  exact ⟨t, a1, b1 hf⟩
theorem w_callSF {p : Program} {e : Env} {s : State} {m : MethodId} {args : Array Value} {below : List Frame} {meth : Method} {c : Code} {H : Heap} {locs : List Loc} {ls : Array Slot} {aK aV idx n : Nat} {y : MethodName} {mi' : ux_I} {d' k' : Nat} {av rest stk : List Value} {Q' : Option Value → ux_H → Prop} (C : ux_C l G mi p s m args meth c) (hH : ux_hw G h H) (hS : va_S (ux_A G) s.heap H locs) (hl : lv_has ls mi.2.1 (ux_lv G 0 L)) (hf : ux_sf G aK aV s)
    (ln : ux_lS mi.2.2.1 idx y) (lk : ux_lk y mi' n) (hM : ux_MF l G (ux_sf G aK aV) y mi' d' k' av h Q' (fun _ _ => False)) (d : decode mi.1 pc = .ok (.invokestatic idx, 3)) (hh : mi'.2.2.2.2 = []) (hn : av.length = n) (hro : ux_ro R mi'.2.1 d' k' u = true) (hst : stk = av.reverse ++ rest) (hc : (rest.map fun v => v.category).sum ≤ 8)
    (kk : ∀ v h', Q' v h' → ux_W l G mi R Z (pc + 3) L (v.toList ++ rest) h' (u + k')) : W p l e R s m args below meth c H locs u (6 * u) (Z args s below) (F0 m pc ls (stk.map (ux_cv G))) := by
  obtain ⟨r1, r2, r3, r4⟩ := ux_ro_of hro
  obtain ⟨k1, k2, k3, k4, k5, k6⟩ := lk
  have hcw : ux_cw y mi' = .code y mi'.1 mi'.2.1 mi'.2.2.2.1 := by unfold ux_cw; rw [hh]
  have hts := C.2.2.2.2.1
  rw [hst]
  refine ux_runQ C hS hl (vx_runS (y := y) (bytes := mi'.1) (maxL := mi'.2.1) (ret := mi'.2.2.2.1) (As := av.map (ux_cv G)) (rest := rest.map (ux_cv G)) (rm := ux_rm d' k') ⟨C.1, C.2.1, C.2.2.1, C.2.2.2.1, hts⟩ hM
    ⟨⟨rfl, rfl, r1, r2, ux_warm hts k1, by rw [hcw]; exact List.mem_cons_self, by rw [← hcw]; exact hts _ k1, hts _ k2, k3, ux_len k4, hts _ ln.1⟩, hts _ ln.2⟩ ⟨ux_Pf_blind, fun U hU hW => ⟨rfl, (ux_pres (av := av) C.2.2.2.2.2.2.2.2 hH hS U hU hW).2, ux_sf_on hf hS hU hW⟩⟩ rfl (by rw [List.length_map]; exact hn) hl.1 ?_ (ux_room hc) d ⟨r3, r4⟩) kk (fun _ _ z => z.elim)
  show (av.reverse ++ rest).map (ux_cv G) = _
  rw [List.map_append, List.map_reverse]
theorem w_callVF {p : Program} {e : Env} {s : State} {m : MethodId} {args : Array Value} {below : List Frame} {meth : Method} {c : Code} {H : Heap} {locs : List Loc} {ls : Array Slot} {aK aV idx n : Nat} {y : MethodName} {mi' : ux_I} {d' k' : Nat} {av rest stk : List Value} {Q' : Option Value → ux_H → Prop} (C : ux_C l G mi p s m args meth c) (hH : ux_hw G h H) (hS : va_S (ux_A G) s.heap H locs) (hl : lv_has ls mi.2.1 (ux_lv G 0 L)) (hf : ux_sf G aK aV s)
    (ln : ux_lV mi.2.2.1 idx y) (lk : ux_lk y mi' n) (hM : ux_MF l G (ux_sf G aK aV) y mi' d' k' (.ref (1000 + aK) :: av) h Q' (fun _ _ => False)) (hy : y.cls = "java/lang/String") (d : decode mi.1 pc = .ok (.invokevirtual idx, 3)) (hh : mi'.2.2.2.2 = []) (hn : av.length = n) (hro : ux_ro R mi'.2.1 d' k' u = true) (hst : stk = av.reverse ++ .ref (1000 + aK) :: rest) (hc : (rest.map fun v => v.category).sum ≤ 8)
    (kk : ∀ v h', Q' v h' → ux_W l G mi R Z (pc + 3) L (v.toList ++ rest) h' (u + k')) : W p l e R s m args below meth c H locs u (6 * u) (Z args s below) (F0 m pc ls (stk.map (ux_cv G))) := by
  obtain ⟨r1, r2, r3, r4⟩ := ux_ro_of hro
  obtain ⟨k1, k2, k3, k4, k5, k6⟩ := lk
  have hcw : ux_cw y mi' = .code y mi'.1 mi'.2.1 mi'.2.2.2.1 := by unfold ux_cw; rw [hh]
  have hts := C.2.2.2.2.1
  rw [hst]
  have hp := ux_pres (av := .ref (1000 + aK) :: av) C.2.2.2.2.2.2.2.2 hH hS
  refine ux_runQ C hS hl (vx_runV (C := y.cls) (b := aK) (y := y) (bytes := mi'.1) (maxL := mi'.2.1) (ret := mi'.2.2.2.1) (As := av.map (ux_cv G)) (rest := rest.map (ux_cv G)) (rm := ux_rm d' k') ⟨C.1, C.2.1, C.2.2.1, C.2.2.2.1, hts⟩ hM
    ⟨⟨rfl, rfl, r1, r2, ux_warm hts k1, by rw [hcw]; exact List.mem_cons_self, by rw [← hcw]; exact hts _ k1, hts _ k2, k3, ux_len k4, hts _ ln.1⟩, hts _ ln.2.1, hts _ ln.2.2⟩ ⟨ux_Pf_blind, ?_, fun U hU hW => ⟨?_, (hp U hU hW).2, ux_sf_on hf hS hU hW⟩⟩ rfl (by rw [List.length_map]; exact hn) hl.1 ?_ (ux_room hc) d ⟨r3, r4⟩) kk (fun _ _ z => z.elim)
  · obtain ⟨cell, a1, a2, a3, a4⟩ := (hf.1 0 (by decide)).1.kept hS.2.1
    exact ⟨cell, a1, a2, by rw [hy]; exact a3⟩
  · rw [List.map_cons, ux_cv_raw]
  · show (av.reverse ++ .ref (1000 + aK) :: rest).map (ux_cv G) = _
    rw [List.map_append, List.map_reverse, List.map_cons, ux_cv_raw]
/-- a field of the text -/
theorem g_getF {aK aV idx : Nat} {n d : String} {w : Value} (hE : ∀ s, ux_sf G aK aV s → va_OF "java/lang/String" n d (ux_cv G w) aK (ux_A G) s s.heap) (hlink : Cond.fieldLink mi.2.2.1 idx "java/lang/String" n d ∈ ux_T) (dd : decode mi.1 pc = .ok (.getfield idx, 3)) (k : ux_W l G mi R (ux_fZ (ux_sf G aK aV) Z) (pc + 3) L (w :: st) h u) : ux_W l G mi R (ux_fZ (ux_sf G aK aV) Z) pc L (.ref (1000 + aK) :: st) h u := by
  refine g_fx (fun p e s m args below meth c H locs ls hf C hH hS hl => ?_)
  rw [List.map_cons, ux_cv_raw]
  exact vk_getf C.1 C.2.1 (hE s hf) hS C.2.2.2.1 (C.2.2.2.2.1 _ hlink) (fun x q => q) dd (k p e s m args below meth c H locs ls C hH hS hl)
/-- how long its bytes are -/
theorem g_lenF {aK aV : Nat} (dd : decode mi.1 pc = .ok (.arraylength, 1)) (k : ux_W l G mi R (ux_fZ (ux_sf G aK aV) Z) (pc + 1) L (.int 4 :: st) h u) : ux_W l G mi R (ux_fZ (ux_sf G aK aV) Z) pc L (.ref (1000 + aV) :: st) h u := by
  refine g_fx (fun p e s m args below meth c H locs ls hf C hH hS hl => ?_)
  rw [List.map_cons, ux_cv_raw]
  exact va_tlen C.1 C.2.1 (hf.1 0 (by decide)).2.2.2 hS (v := 4) rfl dd (k p e s m args below meth c H locs ls C hH hS hl)
/-- the text's sign k -/
def cK (k : Nat) : Nat := [99, 115, 112, 114].getD k 0
theorem cK_by {k : Nat} (hk : k < 4) : ¬ nI k < 0 ∧ nI k < 4 ∧ (nI k).toNatClampNeg = k ∧ ([99, 115, 112, 114] : List Int32).getD k 0 = nI (cK k) ∧ ((nI (cK k)) &&& 255) = nI (cK k) ∧ ((nI (cK k)).toUInt32 % 65536).toInt32 = nI (cK k) := by
  have e : k = 0 ∨ k = 1 ∨ k = 2 ∨ k = 3 := by omega
  rcases e with rfl | rfl | rfl | rfl <;> decide +kernel
theorem cK_nar {k : Nat} (hk : k < 4) : narrow .char (.int (nI (cK k))) = .int (nI (cK k)) := by
  have e : k = 0 ∨ k = 1 ∨ k = 2 ∨ k = 3 := by omega
  rcases e with rfl | rfl | rfl | rfl <;> rfl
theorem g_bldF {aK aV k : Nat} (hk : k < 4) (dd : decode mi.1 pc = .ok (.baload, 1)) (kk : ux_W l G mi R (ux_fZ (ux_sf G aK aV) Z) (pc + 1) L (.int (nI (cK k)) :: st) h u) : ux_W l G mi R (ux_fZ (ux_sf G aK aV) Z) pc L (.int (nI k) :: .ref (1000 + aV) :: st) h u := by
  refine g_fx (fun p e s m args below meth c H locs ls hf C hH hS hl => ?_)
  rw [List.map_cons, List.map_cons, ux_cv_raw]
  obtain ⟨b1, b2, b3, b4, b5, b6⟩ := cK_by hk
  have hT := (hf.1 0 (by decide)).2.2.2
  have hin : vp_in (nI k) (([4] : List Nat).getD 0 0) := by
    have e : k = 0 ∨ k = 1 ∨ k = 2 ∨ k = 3 := by omega
    rcases e with rfl | rfl | rfl | rfl <;> (unfold vp_in; decide +kernel)
  exact va_tb C.1 C.2.1 hT hS hin (v := .int (nI (cK k))) (by rw [b3]; exact congrArg Value.int b4) dd (kk p e s m args below meth c H locs ls C hH hS hl)
/-- a static that holds an object or none -/
theorem g_getsq {idx : Nat} (hlink : Cond.fieldLink mi.2.2.1 idx "jdk/internal/util/Preconditions" "SIOOBE_FORMATTER" "Ljava/util/function/BiFunction;" ∈ ux_T) (dd : decode mi.1 pc = .ok (.getstatic idx, 3)) (k : ∀ w : Value, w.category = 1 → ux_W l G mi R Z (pc + 3) L (w :: st) h u) : ux_W l G mi R Z pc L st h u := by
  intro p e s m args below meth c H locs ls C hH hS hl
  obtain ⟨aK, aV, g1, g2, g3, g4⟩ := C.2.2.2.2.2.2.2.2.2.2.2.2.2.2.2.2.2
  rcases g4 with g4 | ⟨t, g4⟩
  · exact va_gets C.1 C.2.1 g4 hS C.2.2.2.1 (C.2.2.2.2.1 _ hlink) (fun x q => q) dd (k .null rfl p e s m args below meth c H locs ls C hH hS hl)
  · have := k (.ref (1000 + t)) rfl p e s m args below meth c H locs ls C hH hS hl
    rw [List.map_cons, ux_cv_raw] at this
    exact va_gets C.1 C.2.1 g4 hS C.2.2.2.1 (C.2.2.2.2.1 _ hlink) (fun x q => q) dd this
theorem g_getsc {idx : Nat} (hlink : Cond.fieldLink mi.2.2.1 idx "java/lang/String" "COMPACT_STRINGS" "Z" ∈ ux_T) (dd : decode mi.1 pc = .ok (.getstatic idx, 3)) (k : ux_W l G mi R Z (pc + 3) L (.int 1 :: st) h u) : ux_W l G mi R Z pc L st h u := by
  intro p e s m args below meth c H locs ls C hH hS hl
  obtain ⟨aK, aV, g1, g2, g3, g4⟩ := C.2.2.2.2.2.2.2.2.2.2.2.2.2.2.2.2.2
  exact va_gets C.1 C.2.1 g3 hS C.2.2.2.1 (C.2.2.2.2.1 _ hlink) (fun x q => q) dd (k p e s m args below meth c H locs ls C hH hS hl)
end UXK
theorem mJ3k {l : Launch} {G : ux_G} {h : ux_H} {i n : Int32} {w : Value} (hw : w.category = 1) (c1 : ¬ i < 0) (c2 : i < n) : ux_F l G yJ3_checkIndex_8e157 iJ3k 0 0 [.int i, .int n, w] h (some (.int i)) h := by
  unfold ux_F
  refine ux_ent (L' := [some (.int i), some (.int n), some w]) kJ3k rfl (by simp only [List.all_cons, List.all_nil, Bool.and_true, Bool.and_eq_true, beq_iff_eq]; exact ⟨rfl, rfl, hw⟩) rfl rfl ?_
  refine g_iload_n dJ3_checkIndex_8e157_0 rfl ?_
  refine g_if_lt (tgt := 9) dJ3_checkIndex_8e157_1 rfl (fun q => absurd q c1) (fun _ => ?_)
  refine g_iload_n dJ3_checkIndex_8e157_4 rfl ?_
  refine g_iload_n dJ3_checkIndex_8e157_5 rfl ?_
  refine g_icmp_lt (tgt := 16) dJ3_checkIndex_8e157_6 rfl (fun _ => ?_) (fun q => absurd c2 q)
  refine g_iload_n dJ3_checkIndex_8e157_16 rfl ?_
  refine g_ireturn dJ3_checkIndex_8e157_17 rfl rfl (by decide) ?_
  exact ⟨rfl, rfl⟩
theorem mJ0k {l : Launch} {G : ux_G} {h : ux_H} {i n : Int32} (c1 : ¬ i < 0) (c2 : i < n) : ux_F l G yJ0_checkIndex_df160 iJ0k 1 0 [.int i, .int n] h none h := by
  unfold ux_F
  refine ux_ent (L' := [some (.int i), some (.int n)]) kJ0k rfl rfl rfl rfl ?_
  refine g_iload_n dJ0_checkIndex_df160_0 rfl ?_
  refine g_iload_n dJ0_checkIndex_df160_1 rfl ?_
  refine g_getsq fJ_1053 dJ0_checkIndex_df160_2 (fun w hw => ?_)
  refine f_S (u' := 0) (rest := []) lJ_S1059 kJ3k (mJ3k (i := i) (n := n) hw c1 c2) dJ0_checkIndex_df160_5 rfl rfl rfl rfl rfl rfl ?_
  refine g_pop dJ0_checkIndex_df160_8 rfl ?_
  refine g_return dJ0_checkIndex_df160_9 rfl (by decide) ?_
  exact ⟨rfl, rfl⟩
theorem ux_fZ_end {l : Launch} {G : ux_G} {mi : ux_I} {R : Room} {Z : ux_Zt} {pc : Nat} {L : List (Option Value)} {st : List Value} {h : ux_H} {u : Nat} {F : State → Prop} (k : ux_W l G mi R Z pc L st h u) : ux_W l G mi R (ux_fZ F Z) pc L st h u := by
  intro p e s m args below meth c H locs ls C hH hS hl T hT X
  obtain ⟨t, a1, b1⟩ := k p e s m args below meth c H locs ls C hH hS hl T hT X
  exact ⟨t, a1, fun _ => b1⟩
theorem mJ0l {l : Launch} {G : ux_G} {h : ux_H} {aK aV : Nat} : ux_MF l G (ux_sf G aK aV) yJ0_isLatin1_aae02 iJ0l 0 0 [.ref (1000 + aK)] h (fun v h' => v = some (.int 1) ∧ h' = h) (fun _ _ => False) := by
  refine ux_entF (L' := [some (.ref (1000 + aK))]) kJ0l rfl rfl rfl rfl ?_
  refine g_getsc fJ_38 dJ0_isLatin1_aae02_0 ?_
  refine g_if_eq (tgt := 17) dJ0_isLatin1_aae02_3 rfl (fun q => absurd q (by decide)) (fun _ => ?_)
  refine g_aload_n dJ0_isLatin1_aae02_6 rfl ?_
  refine g_getF (w := .int 0) (fun s hf => (hf.1 0 (by decide)).2.1) fJ_15 dJ0_isLatin1_aae02_7 ?_
  refine g_if_ne (tgt := 17) dJ0_isLatin1_aae02_10 rfl (fun q => absurd rfl q) (fun _ => ?_)
  refine g_iconst (v := 1) dJ0_isLatin1_aae02_13 rfl ?_
  refine g_goto (tgt := 18) dJ0_isLatin1_aae02_14 rfl ?_
  refine ux_fZ_end (g_ireturn dJ0_isLatin1_aae02_18 rfl rfl (by decide) ?_)
  exact ⟨rfl, rfl⟩
theorem mJ1c {l : Launch} {G : ux_G} {h : ux_H} {aK aV k : Nat} (hk : k < 4) : ux_MF l G (ux_sf G aK aV) yJ1_charAt_3b067 iJ1c 2 0 [.ref (1000 + aV), .int (nI k)] h (fun v h' => v = some (.int (nI (cK k))) ∧ h' = h) (fun _ _ => False) := by
  obtain ⟨b1, b2, b3, b4, b5, b6⟩ := cK_by hk
  refine ux_entF (L' := [some (.ref (1000 + aV)), some (.int (nI k))]) kJ1c rfl rfl rfl rfl ?_
  refine g_iload_n dJ1_charAt_3b067_0 rfl ?_
  refine g_aload_n dJ1_charAt_3b067_1 rfl ?_
  refine g_lenF dJ1_charAt_3b067_2 ?_
  refine f_S (u' := 0) (rest := []) lJ_S9 kJ0k (mJ0k (i := nI k) (n := 4) b1 b2) dJ1_charAt_3b067_3 rfl rfl rfl rfl rfl rfl ?_
  dsimp only [Option.toList, List.cons_append, List.nil_append]
  refine g_aload_n dJ1_charAt_3b067_6 rfl ?_
  refine g_iload_n dJ1_charAt_3b067_7 rfl ?_
  refine g_bldF hk dJ1_charAt_3b067_8 ?_
  refine g_sipush (v := 255) dJ1_charAt_3b067_9 rfl ?_
  refine g_iand dJ1_charAt_3b067_12 ?_
  rw [b5]
  refine g_i2c dJ1_charAt_3b067_13 b6 ?_
  refine ux_fZ_end (g_ireturn dJ1_charAt_3b067_14 rfl (cK_nar hk) (by decide) ?_)
  exact ⟨rfl, rfl⟩
theorem mJ0c {l : Launch} {G : ux_G} {h : ux_H} {aK aV k : Nat} (hk : k < 4) : ux_MF l G (ux_sf G aK aV) yJ0_charAt_5068e iJ0c 3 0 [.ref (1000 + aK), .int (nI k)] h (fun v h' => v = some (.int (nI (cK k))) ∧ h' = h) (fun _ _ => False) := by
  obtain ⟨b1, b2, b3, b4, b5, b6⟩ := cK_by hk
  refine ux_entF (L' := [some (.ref (1000 + aK)), some (.int (nI k))]) kJ0c rfl rfl rfl rfl ?_
  refine g_aload_n dJ0_charAt_5068e_0 rfl ?_
  refine g_fx (fun p e s m args below meth c H locs ls hf C hH hS hl => ?_)
  refine w_callVF (k' := 0) (rest := []) C hH hS hl hf lJ_V492 kJ0l mJ0l rfl dJ0_charAt_5068e_1 rfl rfl rfl rfl (by decide) (fun v h' hq => ?_)
  obtain ⟨rfl, rfl⟩ := hq
  dsimp only [Option.toList, List.cons_append, List.nil_append]
  refine g_if_eq (tgt := 16) dJ0_charAt_5068e_4 rfl (fun q => absurd q (by decide)) (fun _ => ?_)
  refine g_aload_n dJ0_charAt_5068e_7 rfl ?_
  refine g_getF (w := .ref (1000 + aV)) (fun s hf => by rw [ux_cv_raw]; exact (hf.1 0 (by decide)).2.2.1) fJ_9 dJ0_charAt_5068e_8 ?_
  refine g_iload_n dJ0_charAt_5068e_11 rfl ?_
  refine g_fx (fun p e s m args below meth c H locs ls hf C hH hS hl => ?_)
  refine w_callSF (k' := 0) (rest := []) C hH hS hl hf lJ_S495 kJ1c (mJ1c hk) dJ0_charAt_5068e_12 rfl rfl rfl rfl (by decide) (fun v h' hq => ?_)
  obtain ⟨rfl, rfl⟩ := hq
  dsimp only [Option.toList, List.cons_append, List.nil_append]
  refine ux_fZ_end (g_ireturn dJ0_charAt_5068e_15 rfl (cK_nar hk) (by decide) ?_)
  exact ⟨rfl, rfl⟩
/-- the reference's sign k of the text: ldc, iload, invokevirtual -/
theorem g_cspr {l : Launch} {G : ux_G} {mi : ux_I} {R : Room} {Z : ux_Zt} {pc : Nat} {L : List (Option Value)} {st : List Value} {h : ux_H} {u i k : Nat} (hk : k < 4) (hm : mi.2.2.1 = RX6) (d0 : decode mi.1 pc = .ok (.ldc 253, 2)) (d1 : decode mi.1 (pc + 2) = .ok (.iload i, 2)) (hL : L[i]? = some (some (.int (nI k)))) (d2 : decode mi.1 (pc + 2 + 2) = .ok (.invokevirtual 255, 3)) (hro : ux_ro R 2 3 0 u = true) (hc : (st.map fun v => v.category).sum ≤ 8)
    (kk : ux_W l G mi R Z (pc + 2 + 2 + 3) L (.int (nI (cK k)) :: st) h u) : ux_W l G mi R Z pc L st h u := by
  intro p e s m args below meth c H locs ls C hH hS hl
  obtain ⟨aK, aV, g1, g2, g3, g4⟩ := C.2.2.2.2.2.2.2.2.2.2.2.2.2.2.2.2.2
  have hf : ux_sf G aK aV s := g2
  rw [← hm] at g1
  refine va_ldcS C.1 C.2.1 C.2.2.2.1 g1 d0 ?_
  refine lv_iload C.1 C.2.1 d1 (ux_at hl hL) ?_
  have := w_callVF (k' := 0) (rest := st) (av := [.int (nI k)]) (stk := .int (nI k) :: .ref (1000 + aK) :: st) (pc := pc + 2 + 2) C hH hS hl hf (by rw [hm]; exact lJ_V255) kJ0c (mJ0c hk) rfl d2 rfl rfl hro rfl hc (fun v h' hq => by obtain ⟨rfl, rfl⟩ := hq; exact kk) (Z := Z) (R := R) (below := below) (e := e) (locs := locs)
  rw [List.map_cons, List.map_cons, ux_cv_raw] at this
  exact this
