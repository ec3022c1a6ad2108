/-! CALLS, RETURNS, THROWS, ENTRIES in the uniform world. -/
section UXD
variable {l : Launch} {G : ux_G} {mi : ux_I} {R : Room} {Z : ux_Zt} {pc : Nat} {L : List (Option Value)} {st : List Value} {h : ux_H} {u : Nat}
/-- a contract that throws nothing is a plain one -/
theorem ux_met {y : MethodName} {mi' : ux_I} {d k : Nat} {av : List Value} {Q : Option Value → ux_H → Prop} (hM : ux_M l G y mi' d k av h Q (fun _ _ => False)) : Met l y (ux_cw y mi' :: ux_T) (ux_rm d k) (ux_Pc l G av h) (ux_Qc G Q) k (6 * k) (ux_A G) := by
  intro p e h1 h2 h3 s m args below h4 h5 h6 h7
  obtain ⟨n, o, g1, g2, g3, g4⟩ := hM p e h1 h2 h3 s m args below h4 h5 h6 h7
  refine ⟨n, o, g1, g2, g3, ?_⟩
  rcases g4 with g4 | ⟨q, _, E, ce, L0, ⟨⟨h', hx, _⟩, _⟩, _⟩
  · exact g4
  · exact hx.elim
/-- behind a call, back in the frame -/
theorem ux_kept {s st₀ t T' : State} {H : Heap} {locs L0 : List Loc} (h0 : st₀.heap = H) (e1 : T'.heap = t.heap) (hS : va_S (ux_A G) s.heap H locs) (hL : ∀ q ∈ L0, ux_A G q.base) (hF : va_F (ux_A G) st₀ t) : va_S (ux_A G) s.heap T'.heap (locs ++ L0) :=
  (vx_keep h0 e1 hS (fun _ _ q => q) (fun _ q => q) hL hF).2.2
theorem ux_runQ {p : Program} {e : Env} {s : State} {m : MethodId} {args : Array Value} {below : List Frame} {meth : Method} {c : Code} {H : Heap} {locs : List Loc} {ls : Array Slot} {k' : Nat} {rest : List Value} {st0 : List Value} {Q' : Option Value → ux_H → Prop} {X' : String → ux_H → Prop} {a : Array Value}
    (C : ux_C l G mi p s m args meth c) (hS : va_S (ux_A G) s.heap H locs) (hl : lv_has ls mi.2.1 (ux_lv G 0 L))
    (hr : vx_Run p l e R s m args below meth c H locs u (6 * u) k' (6 * k') (F0 m pc ls st0) (rest.map (ux_cv G)) (ux_Qc G Q' a) (ux_Xc G X') (ux_A G))
    (kk : ∀ v h', Q' v h' → ux_W l G mi R Z (pc + 3) L (v.toList ++ rest) h' (u + k')) (kx : ∀ E h', X' E h' → ux_V l G mi R Z pc L h' (u + k') E) : W p l e R s m args below meth c H locs u (6 * u) (Z args s below) (F0 m pc ls st0) := by
  intro T hT X
  have e6 : 6 * u + 6 * k' = 6 * (u + k') := by omega
  rcases hr T hT X with ⟨v, st₀, t, T', L0, h0, X', hL, e1, e2, ⟨⟨v', h', hv, hq, hw⟩, hF⟩, st⟩ | ⟨q, st₀, t, T', L0, E, ce, h0, X', hL, e1, e2, ⟨⟨h', hq, hw⟩, hF⟩, hce, hcv, hcl, st⟩
  · have hv2 : v = v'.map (ux_cv G) := by simpa using hv
    subst hv2
    have hS2 := ux_kept h0 e1 hS hL hF
    rw [← e1] at hw
    rw [e6] at X'
    obtain ⟨t2, a1, b1⟩ := kk v' h' hq p e s m args below meth c T'.heap (locs ++ L0) ls C hw hS2 hl T' rfl X'
    have hstk : ((v'.map (ux_cv G)).toList ++ rest.map (ux_cv G)) = (v'.toList ++ rest).map (ux_cv G) := by cases v' <;> rfl
    refine ⟨t2, st t2 ?_, b1⟩
    rw [hstk]
    exact a1
  · have hS2 := ux_kept h0 e1 hS hL hF
    rw [← e1] at hw hce
    rw [e6] at X'
    obtain ⟨t2, a1, b1⟩ := kx E h' hq p e s m args below meth c T'.heap (locs ++ L0) ls ce q (rest.map (ux_cv G)) C hw hS2 hl hce hcv hcl T' rfl X'
    exact ⟨t2, st.trans a1, b1⟩
/-- a plain run is one that doesn't throw -/
theorem ux_run_of {p : Program} {e : Env} {s : State} {m : MethodId} {args : Array Value} {below : List Frame} {meth : Method} {c : Code} {H : Heap} {locs : List Loc} {cells slots mc ms : Nat} {g : JFrame} {rest : List Value} {Qa : State → Outcome → State → Prop} {free : Addr → Prop} (hr : va_Run p l e R s m args below meth c H locs cells slots mc ms g rest Qa free) : vx_Run p l e R s m args below meth c H locs cells slots mc ms g rest Qa (ux_Xc G (fun _ _ => False)) free := by
  intro T hT X
  exact Or.inl (hr T hT X)
theorem ux_pres {s : State} {H : Heap} {locs : List Loc} {av : List Value} (w : ux_wf l G s) (hH : ux_hw G h H) (hS : va_S (ux_A G) s.heap H locs) : ∀ U : State, U.heap = H → s.WarmedH U.vm → ux_Pc l G av h (av.map (ux_cv G)).toArray U :=
  fun U hU hW => ⟨rfl, w.on hS hU hW, by rw [hU]; exact hH⟩
theorem ux_warm {s : State} {args : Array Value} {w0 : Cond} (ht : ∀ w ∈ ux_T, w.before args s = true) (h0 : w0 ∈ ux_T) : ∀ w ∈ w0 :: ux_T, ∀ (a' : Array Value) (U : State), s.WarmedH U.vm → w.before a' U = true := pay_in ht (ux_goodIn h0)
theorem ux_len {y : MethodName} {n : Nat} (hd : (parseMethodDescriptor y.desc).map (fun d => d.parameters.length) = some n) : ∀ sig, parseMethodDescriptor y.desc = some sig → n = sig.parameters.length := by
  intro sig q
  rw [q] at hd
  exact (Option.some.inj hd).symm
theorem ux_room {rest : List Value} {m : MethodId} {pc : Nat} {ls : Array Slot} {st0 : List Value} (q : (rest.map fun v => v.category).sum ≤ 8) : 2 * (F0 m pc ls st0).monitorRoom + ((rest.map (ux_cv G)).map fun v => v.category).sum ≤ 8 := by
  have e : (rest.map (ux_cv G)).map (fun v => v.category) = rest.map fun v => v.category := by
    rw [List.map_map]
    congr 1
    funext v
    exact ux_cv_cat G v
  rw [e]
  exact lv_room (pc := pc) (ls := ls) (rest := st0) q
theorem g_callS {idx n : Nat} {y : MethodName} {mi' : ux_I} {d' k' : Nat} {av rest stk : List Value} {Q' : Option Value → ux_H → Prop} {X' : String → ux_H → Prop} (ln : ux_lS mi.2.2.1 idx y) (lk : ux_lk y mi' n) (hM : ux_M l G y mi' d' k' av h Q' X') (d : decode mi.1 pc = .ok (.invokestatic idx, 3)) (hh : mi'.2.2.2.2 = []) (hn : av.length = n) (hro : ux_ro R mi'.2.1 d' k' u = true) (hst : stk = av.reverse ++ rest) (hc : (rest.map fun v => v.category).sum ≤ 8)
    (kk : ∀ v h', Q' v h' → ux_W l G mi R Z (pc + 3) L (v.toList ++ rest) h' (u + k')) (kx : ∀ E h', X' E h' → ux_V l G mi R Z pc L h' (u + k') E) : ux_W l G mi R Z pc L stk h u := by
  intro p e s m args below meth c H locs ls C hH hS hl
  obtain ⟨r1, r2, r3, r4⟩ := ux_ro_of hro
  obtain ⟨k1, k2, k3, k4, k5, k6⟩ := lk
  have hcw : ux_cw y mi' = .code y mi'.1 mi'.2.1 mi'.2.2.2.1 := by unfold ux_cw; rw [hh]
  have hts := C.2.2.2.2.1
  rw [hst]
  refine ux_runQ C hS hl (vx_runS (y := y) (bytes := mi'.1) (maxL := mi'.2.1) (ret := mi'.2.2.2.1) (As := av.map (ux_cv G)) (rest := rest.map (ux_cv G)) (rm := ux_rm d' k') ⟨C.1, C.2.1, C.2.2.1, C.2.2.2.1, hts⟩ hM
    ⟨⟨rfl, rfl, r1, r2, ux_warm hts k1, by rw [hcw]; exact List.mem_cons_self, by rw [← hcw]; exact hts _ k1, hts _ k2, k3, ux_len k4, hts _ ln.1⟩, hts _ ln.2⟩ ⟨ux_Pc_blind, ux_pres C.2.2.2.2.2.2.2.2 hH hS⟩ rfl (by rw [List.length_map]; exact hn) hl.1 ?_ (ux_room hc) d ⟨r3, r4⟩) kk kx
  show (av.reverse ++ rest).map (ux_cv G) = _
  rw [List.map_append, List.map_reverse]
theorem g_callSN {idx n : Nat} {y : MethodName} {mi' : ux_I} {d' k' : Nat} {av rest stk : List Value} {Q' : Option Value → ux_H → Prop} (ln : ux_lSN mi.2.2.1 idx y) (lk : ux_lk y mi' n) (hM : ux_M l G y mi' d' k' av h Q' (fun _ _ => False)) (d : decode mi.1 pc = .ok (.invokestatic idx, 3)) (hh : mi'.2.2.2.2 = []) (hn : av.length = n) (hro : ux_ro R mi'.2.1 d' k' u = true) (hst : stk = av.reverse ++ rest) (hc : (rest.map fun v => v.category).sum ≤ 8)
    (kk : ∀ v h', Q' v h' → ux_W l G mi R Z (pc + 3) L (v.toList ++ rest) h' (u + k')) : ux_W l G mi R Z pc L stk h u := by
  intro p e s m args below meth c H locs ls C hH hS hl
  obtain ⟨r1, r2, r3, r4⟩ := ux_ro_of hro
  obtain ⟨k1, k2, k3, k4, k5, k6⟩ := lk
  obtain ⟨⟨host, l1⟩, l2⟩ := ln
  have hcw : ux_cw y mi' = .code y mi'.1 mi'.2.1 mi'.2.2.2.1 := by unfold ux_cw; rw [hh]
  have hts := C.2.2.2.2.1
  rw [hst]
  refine ux_runQ (X' := fun _ _ => False) C hS hl (ux_run_of (va_runSN (y := y) (host := host) (bytes := mi'.1) (maxL := mi'.2.1) (ret := mi'.2.2.2.1) (As := av.map (ux_cv G)) (rest := rest.map (ux_cv G)) (rm := ux_rm d' k') ⟨C.1, C.2.1, C.2.2.1, C.2.2.2.1, hts⟩ (ux_met hM)
    ⟨⟨⟨rfl, rfl, r1, r2, ux_warm hts k1, by rw [hcw]; exact List.mem_cons_self⟩, by rw [← hcw]; exact hts _ k1, hts _ k2, k3, ux_len k4, (C.2.2.2.2.2.2.2.2.2.2.1 _ l1).use rfl⟩, hts _ l2, trivial⟩ ⟨ux_Pc_blind, ux_pres C.2.2.2.2.2.2.2.2 hH hS⟩ rfl (by rw [List.length_map]; exact hn) hl.1 ?_ (ux_room hc) d ⟨r3, r4⟩)) kk (fun _ _ z => z.elim)
  show (av.reverse ++ rest).map (ux_cv G) = _
  rw [List.map_append, List.map_reverse]
theorem ux_recv {s : State} {H : Heap} {k ci : Nat} {C0 : String} (w : ux_wf l G s) (hH : ux_hw G h H) (hk : ux_kd k = ci) (hc : (ux_cl[ci]?).map (fun q => q.1) = some C0) : ∃ cell : Cell, H[G.2.1 k]? = some cell ∧ cell.vm.isStatics = false ∧ s.vm.findClass C0 = some cell.cls := by
  cases e : ux_cl[ci]? with
  | none => rw [e] at hc; cases hc
  | some q =>
    rw [e] at hc
    have hc2 : q.1 = C0 := Option.some.inj hc
    rw [← hc2]
    have hci := ux_cl_lt e
    have hk204 : k < 204 := ux_kd_lt (by omega)
    exact va_recv w.2.2.2.2.2.2.2.1 hH e (q0 := k) (by rw [ux_ws_at G h hk204, ux_en_o (by omega), hk])
theorem g_callV {idx n ci b : Nat} {y : MethodName} {mi' : ux_I} {d' k' : Nat} {av rest stk : List Value} {Q' : Option Value → ux_H → Prop} {X' : String → ux_H → Prop} (ln : ux_lV mi.2.2.1 idx y) (lk : ux_lk y mi' n) (hM : ux_M l G y mi' d' k' (.ref b :: av) h Q' X') (d : decode mi.1 pc = .ok (.invokevirtual idx, 3)) (hh : mi'.2.2.2.2 = []) (hn : av.length = n) (hb : ux_kd b = ci) (hcl : (ux_cl[ci]?).map (fun q => q.1) = some y.cls) (hro : ux_ro R mi'.2.1 d' k' u = true) (hst : stk = av.reverse ++ .ref b :: rest) (hc : (rest.map fun v => v.category).sum ≤ 8)
    (kk : ∀ v h', Q' v h' → ux_W l G mi R Z (pc + 3) L (v.toList ++ rest) h' (u + k')) (kx : ∀ E h', X' E h' → ux_V l G mi R Z pc L h' (u + k') E) : ux_W l G mi R Z pc L stk h u := by
  intro p e s m args below meth c H locs ls C hH hS hl
  obtain ⟨r1, r2, r3, r4⟩ := ux_ro_of hro
  obtain ⟨k1, k2, k3, k4, k5, k6⟩ := lk
  have hci : ci < 7 := by
    cases e9 : ux_cl[ci]? with
    | none => rw [e9] at hcl; cases hcl
    | some q => exact ux_cl_lt e9
  have hb204 : b < 204 := ux_kd_lt (by omega)
  have hcv := ux_cv_ref G hb204
  have hcw : ux_cw y mi' = .code y mi'.1 mi'.2.1 mi'.2.2.2.1 := by unfold ux_cw; rw [hh]
  have hts := C.2.2.2.2.1
  rw [hst]
  have hp := ux_pres (av := .ref b :: av) C.2.2.2.2.2.2.2.2 hH hS
  refine ux_runQ C hS hl (vx_runV (C := y.cls) (b := G.2.1 b) (y := y) (bytes := mi'.1) (maxL := mi'.2.1) (ret := mi'.2.2.2.1) (As := av.map (ux_cv G)) (rest := rest.map (ux_cv G)) (rm := ux_rm d' k') ⟨C.1, C.2.1, C.2.2.1, C.2.2.2.1, hts⟩ hM
    ⟨⟨rfl, rfl, r1, r2, ux_warm hts k1, by rw [hcw]; exact List.mem_cons_self, by rw [← hcw]; exact hts _ k1, hts _ k2, k3, ux_len k4, hts _ ln.1⟩, hts _ ln.2.1, hts _ ln.2.2⟩ ⟨ux_Pc_blind, ux_recv C.2.2.2.2.2.2.2.2 hH hb hcl, ?_⟩ rfl (by rw [List.length_map]; exact hn) hl.1 ?_ (ux_room hc) d ⟨r3, r4⟩) kk kx
  · rw [List.map_cons, hcv] at hp
    exact hp
  · show (av.reverse ++ .ref b :: rest).map (ux_cv G) = _
    rw [List.map_append, List.map_reverse, List.map_cons, hcv]
theorem g_callVN {idx n ci b : Nat} {y : MethodName} {mi' : ux_I} {d' k' : Nat} {av rest stk : List Value} {Q' : Option Value → ux_H → Prop} (ln : ux_lVN mi.2.2.1 idx y) (lk : ux_lk y mi' n) (hM : ux_M l G y mi' d' k' (.ref b :: av) h Q' (fun _ _ => False)) (d : decode mi.1 pc = .ok (.invokevirtual idx, 3)) (hh : mi'.2.2.2.2 = []) (hn : av.length = n) (hb : ux_kd b = ci) (hcl : (ux_cl[ci]?).map (fun q => q.1) = some y.cls) (hro : ux_ro R mi'.2.1 d' k' u = true) (hst : stk = av.reverse ++ .ref b :: rest) (hc : (rest.map fun v => v.category).sum ≤ 8)
    (kk : ∀ v h', Q' v h' → ux_W l G mi R Z (pc + 3) L (v.toList ++ rest) h' (u + k')) : ux_W l G mi R Z pc L stk h u := by
  intro p e s m args below meth c H locs ls C hH hS hl
  obtain ⟨r1, r2, r3, r4⟩ := ux_ro_of hro
  obtain ⟨k1, k2, k3, k4, k5, k6⟩ := lk
  obtain ⟨⟨host, l1⟩, l2, l3⟩ := ln
  have hci : ci < 7 := by
    cases e9 : ux_cl[ci]? with
    | none => rw [e9] at hcl; cases hcl
    | some q => exact ux_cl_lt e9
  have hb204 : b < 204 := ux_kd_lt (by omega)
  have hcv := ux_cv_ref G hb204
  have hcw : ux_cw y mi' = .code y mi'.1 mi'.2.1 mi'.2.2.2.1 := by unfold ux_cw; rw [hh]
  have hts := C.2.2.2.2.1
  rw [hst]
  have hp := ux_pres (av := .ref b :: av) C.2.2.2.2.2.2.2.2 hH hS
  refine ux_runQ (X' := fun _ _ => False) C hS hl (ux_run_of (va_runVN (C := y.cls) (b := G.2.1 b) (host := host) (y := y) (bytes := mi'.1) (maxL := mi'.2.1) (ret := mi'.2.2.2.1) (As := av.map (ux_cv G)) (rest := rest.map (ux_cv G)) (rm := ux_rm d' k') ⟨C.1, C.2.1, C.2.2.1, C.2.2.2.1, hts⟩ (ux_met hM)
    ⟨⟨⟨rfl, rfl, r1, r2, ux_warm hts k1, by rw [hcw]; exact List.mem_cons_self⟩, by rw [← hcw]; exact hts _ k1, hts _ k2, k3, ux_len k4, (C.2.2.2.2.2.2.2.2.2.2.1 _ l1).use rfl⟩, hts _ l2, hts _ l3⟩ ⟨ux_Pc_blind, ux_recv C.2.2.2.2.2.2.2.2 hH hb hcl, ?_⟩ rfl (by rw [List.length_map]; exact hn) hl.1 ?_ (ux_room hc) d ⟨r3, r4⟩)) kk (fun _ _ z => z.elim)
  · rw [List.map_cons, hcv] at hp
    exact hp
  · show (av.reverse ++ .ref b :: rest).map (ux_cv G) = _
    rw [List.map_append, List.map_reverse, List.map_cons, hcv]
/-- a static call of a method with handlers of its own -/
theorem g_callSX {idx n : Nat} {y : MethodName} {mi' : ux_I} {d' k' : Nat} {av rest stk : List Value} {Q' : Option Value → ux_H → Prop} {X' : String → ux_H → Prop} (ln : ux_lS mi.2.2.1 idx y) (lk : ux_lk y mi' n) (hM : ux_M l G y mi' d' k' av h Q' X') (d : decode mi.1 pc = .ok (.invokestatic idx, 3)) (hh : mi'.2.2.2.2 ≠ []) (hn : av.length = n) (hro : ux_ro R mi'.2.1 d' k' u = true) (hst : stk = av.reverse ++ rest) (hc : (rest.map fun v => v.category).sum ≤ 8)
    (kk : ∀ v h', Q' v h' → ux_W l G mi R Z (pc + 3) L (v.toList ++ rest) h' (u + k')) (kx : ∀ E h', X' E h' → ux_V l G mi R Z pc L h' (u + k') E) : ux_W l G mi R Z pc L stk h u := by
  intro p e s m args below meth c H locs ls C hH hS hl
  obtain ⟨r1, r2, r3, r4⟩ := ux_ro_of hro
  obtain ⟨k1, k2, k3, k4, k5, k6⟩ := lk
  have hcw : ux_cw y mi' = .codeWith y mi'.1 mi'.2.1 mi'.2.2.2.1 mi'.2.2.2.2 := by
    unfold ux_cw
    split
    · next q => exact absurd q hh
    · rfl
  have hts := C.2.2.2.2.1
  rw [hst]
  refine ux_runQ C hS hl (vx_runSX (y := y) (bytes := mi'.1) (maxL := mi'.2.1) (ret := mi'.2.2.2.1) (hh := mi'.2.2.2.2) (As := av.map (ux_cv G)) (rest := rest.map (ux_cv G)) (rm := ux_rm d' k') ⟨C.1, C.2.1, C.2.2.1, C.2.2.2.1, hts⟩ hM
    ⟨⟨rfl, rfl, r1, r2, ux_warm hts k1, by rw [hcw]; exact List.mem_cons_self⟩, by rw [← hcw]; exact hts _ k1, hts _ k2, k3, ux_len k4, hts _ ln.1, hts _ ln.2⟩ ⟨ux_Pc_blind, ux_pres C.2.2.2.2.2.2.2.2 hH hS⟩ rfl (by rw [List.length_map]; exact hn) hl.1 ?_ (ux_room hc) d ⟨r3, r4⟩) kk kx
  show (av.reverse ++ rest).map (ux_cv G) = _
  rw [List.map_append, List.map_reverse]
end UXD
section UXE
variable {l : Launch} {G : ux_G} {mi : ux_I} {R : Room} {pc : Nat} {L : List (Option Value)} {st : List Value} {h : ux_H} {u k : Nat} {Q : Option Value → ux_H → Prop} {X : String → ux_H → Prop}
theorem ux_fin {s t : State} {H : Heap} {locs : List Loc} {a : Array Value} {v : Option Value} (hH : ux_hw G h H) (hS : va_S (ux_A G) s.heap H locs) (hq : Q v h) (ht : t.heap = H) : ux_Qc G Q a s (.returned (v.map (ux_cv G))) t :=
  ⟨⟨v, h, rfl, hq, by rw [ht]; exact hH⟩, hS.F ht⟩
theorem g_ireturn {x : Int32} {ty : FieldType} (d : decode mi.1 pc = .ok (.ireturn, 1)) (hr : mi.2.2.2.1 = some ty) (hn : narrow ty (.int x) = .int x) (hu : u ≤ k) (hq : Q (some (.int x)) h) : ux_W l G mi R (ux_Z G k Q X) pc L [.int x] h u := by
  intro p e s m args below meth c H locs ls C hH hS hl
  refine vx_ret (W.widen hu (Nat.mul_le_mul_left 6 hu) ?_)
  exact W.zret C.1 C.2.1 (by rw [C.2.2.2.2.2.2.1]; exact hr) hn (fun t ht _ => ux_fin (v := some (.int x)) hH hS hq ht) (fun q hq => hS.2.2 q hq) d C.2.2.2.2.2.1
theorem g_return (d : decode mi.1 pc = .ok (.return_, 1)) (hr : mi.2.2.2.1 = none) (hu : u ≤ k) (hq : Q none h) : ux_W l G mi R (ux_Z G k Q X) pc L [] h u := by
  intro p e s m args below meth c H locs ls C hH hS hl
  refine vx_ret (W.widen hu (Nat.mul_le_mul_left 6 hu) ?_)
  exact W.vret C.1 C.2.1 (by rw [C.2.2.2.2.2.2.1]; exact hr) (fun t ht _ => ux_fin (v := none) hH hS hq ht) (fun q hq => hS.2.2 q hq) d C.2.2.2.2.2.1
theorem g_dreturn {x : UInt64} (d : decode mi.1 pc = .ok (.dreturn, 1)) (hr : mi.2.2.2.1 = some .double) (hu : u ≤ k) (hq : Q (some (.double x)) h) : ux_W l G mi R (ux_Z G k Q X) pc L [.double x] h u := by
  intro p e s m args below meth c H locs ls C hH hS hl
  refine vx_ret (W.widen hu (Nat.mul_le_mul_left 6 hu) ?_)
  exact W.dret C.1 C.2.1 (by rw [C.2.2.2.2.2.2.1]; exact hr) (fun t ht _ => ux_fin (v := some (.double x)) hH hS hq ht) (fun q hq => hS.2.2 q hq) d C.2.2.2.2.2.1
theorem g_areturn {q : Nat} {C0 : String} (d : decode mi.1 pc = .ok (.areturn, 1)) (hr : mi.2.2.2.1 = some (.object C0)) (hu : u ≤ k) (hq : Q (some (.ref q)) h) : ux_W l G mi R (ux_Z G k Q X) pc L [.ref q] h u := by
  intro p e s m args below meth c H locs ls C hH hS hl
  refine vx_ret (W.widen hu (Nat.mul_le_mul_left 6 hu) ?_)
  exact W.aret C.1 C.2.1 (by rw [C.2.2.2.2.2.2.1]; exact hr) (Or.inl ⟨C0, rfl⟩) (Or.inr ⟨_, rfl⟩) (fun t ht _ => ux_fin (v := some (.ref q)) hH hS hq ht) (fun q hq => hS.2.2 q hq) d C.2.2.2.2.2.1
/-- an exception goes on to the caller: no handlers here -/
theorem g_out {E : String} (hh : mi.2.2.2.2 = []) (hu : u ≤ k) (hx : X E h) : ux_V l G mi R (ux_Z G k Q X) pc L h u E := by
  intro p e s m args below meth c H locs ls ce q rest C hH hS hl hce hcv hcl
  have ht : c.exceptionTable.toList = [] := by rw [C.2.2.2.2.2.2.2.1, hh]; rfl
  exact vx_out (by rw [ht]; exact fun x z => absurd z List.not_mem_nil) C.2.2.2.2.2.1 hce hcv hcl (fun t ht2 _ => ⟨⟨h, hx, by rw [ht2]; exact hH⟩, hS.F ht2⟩) (fun z hz => hS.2.2 z hz) hu (Nat.mul_le_mul_left 6 hu)
/-- what 'throw new E("text")' needs of the tables -/
def ux_nm : List String := ["java/lang/RuntimeException", "java/lang/Exception"]
def ux_th (own : String) (ik is ic : Nat) (E text : String) : Prop := Bundle.fit E = true ∧ Cond.classLink own ik E ∈ ux_T ∧ Cond.initialized E ∈ ux_T ∧ (∀ w ∈ vx_atS own ic E ux_nm, w ∈ ux_T ∨ w ∈ ux_N) ∧ (∀ w ∈ Cond.classLink own ik E :: Cond.initialized E :: vx_atS own ic E ux_nm, vx_ot w = true) ∧ (own, is, text) ∈ ux_tx
theorem ux_hat {own E : String} {ic : Nat} {s : State} {args : Array Value} (h1 : ∀ w ∈ vx_atS own ic E ux_nm, w ∈ ux_T ∨ w ∈ ux_N) (ht : ∀ w ∈ ux_T, w.before args s = true) (hn : ∀ w ∈ ux_N, va_Nw w s) (ho : ∀ w ∈ vx_atS own ic E ux_nm, vx_ot w = true) : ∀ w ∈ vx_atS own ic E ux_nm, w.before args s = true := by
  intro w hw
  rcases h1 w hw with q | q
  · exact ht w q
  · have hs := (List.mem_filter.mp q).2
    have hon : w.onTables = true := by
      cases w <;> first | rfl | (exfalso; revert hs; unfold ux_nst; exact fun z => Bool.noConfusion z)
    exact (hn w q).use hon
theorem g_throw {ik is ic : Nat} {E text : String} (t : ux_th mi.2.2.1 ik is ic E text) (d0 : decode mi.1 pc = .ok (.new ik, 3)) (d3 : decode mi.1 (pc + 3) = .ok (.dup, 1)) (d4 : decode mi.1 (pc + 4) = .ok (.ldc is, 2)) (d6 : decode mi.1 (pc + 6) = .ok (.invokespecial ic, 3)) (d9 : decode mi.1 (pc + 9) = .ok (.athrow, 1)) (hh : mi.2.2.2.2 = []) (hR : (Nat.ble 6 R.frames && Nat.ble 100 R.locals && Nat.ble (u + 1) R.cells && Nat.ble (6 * u + 6) R.slots) = true) (hu : u + 1 ≤ k) (hx : X E h) : ux_W l G mi R (ux_Z G k Q X) pc L [] h u := by
  intro p e s m args below meth c H locs ls C hH hS hl
  obtain ⟨t1, t2, t3, t4, t5, t6⟩ := t
  obtain ⟨c1, c2, c3, c4, c5, c6, c7, c8, w1, w2, w3, w4, w5, w6, w7, w8, w9, w10⟩ := C
  obtain ⟨sa, hsa⟩ := w6 _ t6
  simp only [Bool.and_eq_true] at hR
  have r1 := Nat.le_of_ble_eq_true hR.1.1.1
  have r2 := Nat.le_of_ble_eq_true hR.1.1.2
  have r3 := Nat.le_of_ble_eq_true hR.1.2
  have r4 := Nat.le_of_ble_eq_true hR.2
  have ht : c.exceptionTable.toList = [] := by rw [c8, hh]; rfl
  refine vx_throwS (own := mi.2.2.1) (cls := E) (text := text) (names := ux_nm) (A := ux_A G) c1 c2 w2 c4 t1 (by decide +kernel) (c5 _ t2) (c5 _ t3) hsa (ux_hat t4 c5 w3 (fun w hw => t5 w (List.mem_cons_of_mem _ (List.mem_cons_of_mem _ hw)))) t5 w4 w5 hS (hl.1.trans c3.symm) d0 d3 d4 d6 d9 (by rw [ht]; exact fun x z => absurd z List.not_mem_nil) ?_ ?_ r3 r4 c6 ?_ (fun z hz => hS.2.2 z hz) hu (by omega)
  · show 2 + 3 < R.frames
    omega
  · show 0 + (13 * (2 + 1) + 43) ≤ R.locals
    omega
  · intro t2 _ hz hk
    refine ⟨⟨h, hx, hH.kept (fun k0 q0 hq0 => hk _ (hH k0 q0 hq0).lt)⟩, Nat.le_trans hS.1 hz, fun q hq hn => ?_⟩
    rw [hk q (Nat.lt_of_lt_of_le hq hS.1)]
    exact hS.2.1 q hq hn
theorem g_throwW {ik is ic : Nat} {E text : String} (t : ux_th mi.2.2.1 ik is ic E text) (d0 : decode mi.1 pc = .ok (.new ik, 3)) (d3 : decode mi.1 (pc + 3) = .ok (.dup, 1)) (d4 : decode mi.1 (pc + 4) = .ok (.ldc_w is, 3)) (d7 : decode mi.1 (pc + 7) = .ok (.invokespecial ic, 3)) (d10 : decode mi.1 (pc + 10) = .ok (.athrow, 1)) (hh : mi.2.2.2.2 = []) (hR : (Nat.ble 6 R.frames && Nat.ble 100 R.locals && Nat.ble (u + 1) R.cells && Nat.ble (6 * u + 6) R.slots) = true) (hu : u + 1 ≤ k) (hx : X E h) : ux_W l G mi R (ux_Z G k Q X) pc L [] h u := by
  intro p e s m args below meth c H locs ls C hH hS hl
  obtain ⟨t1, t2, t3, t4, t5, t6⟩ := t
  obtain ⟨c1, c2, c3, c4, c5, c6, c7, c8, w1, w2, w3, w4, w5, w6, w7, w8, w9, w10⟩ := C
  obtain ⟨sa, hsa⟩ := w6 _ t6
  simp only [Bool.and_eq_true] at hR
  have r1 := Nat.le_of_ble_eq_true hR.1.1.1
  have r2 := Nat.le_of_ble_eq_true hR.1.1.2
  have r3 := Nat.le_of_ble_eq_true hR.1.2
  have r4 := Nat.le_of_ble_eq_true hR.2
  have ht : c.exceptionTable.toList = [] := by rw [c8, hh]; rfl
  refine vx_throwSW (own := mi.2.2.1) (cls := E) (text := text) (names := ux_nm) (A := ux_A G) c1 c2 w2 c4 t1 (by decide +kernel) (c5 _ t2) (c5 _ t3) hsa (ux_hat t4 c5 w3 (fun w hw => t5 w (List.mem_cons_of_mem _ (List.mem_cons_of_mem _ hw)))) t5 w4 w5 hS (hl.1.trans c3.symm) d0 d3 d4 d7 d10 (by rw [ht]; exact fun x z => absurd z List.not_mem_nil) ?_ ?_ r3 r4 c6 ?_ (fun z hz => hS.2.2 z hz) hu (by omega)
  · show 2 + 3 < R.frames
    omega
  · show 0 + (13 * (2 + 1) + 43) ≤ R.locals
    omega
  · intro t2 _ hz hk
    refine ⟨⟨h, hx, hH.kept (fun k0 q0 hq0 => hk _ (hH k0 q0 hq0).lt)⟩, Nat.le_trans hS.1 hz, fun q hq hn => ?_⟩
    rw [hk q (Nat.lt_of_lt_of_le hq hS.1)]
    exact hS.2.1 q hq hn
theorem ux_args {G : ux_G} : ∀ (av : List Value) (n i : Nat), (∀ v ∈ av, v.category = 1) → ux_lv G i (av.map some ++ List.replicate n none) = lv_args i (av.map (ux_cv G)) := by
  intro av n
  induction av with
  | nil =>
    intro i _
    show ux_lv G i (List.replicate n none) = []
    induction n generalizing i with
    | zero => rfl
    | succ n ih => exact ih (i + 1)
  | cons a r ih =>
    intro i hv
    show (i, ux_cv G a) :: ux_lv G (i + 1) (r.map some ++ List.replicate n none) = (i, ux_cv G a) :: lv_args (if (ux_cv G a).category = 2 then i + 2 else i + 1) (r.map (ux_cv G))
    have h1 : a.category = 1 := hv a List.mem_cons_self
    rw [ux_cv_cat, h1, if_neg (by decide), ih (i + 1) (fun v q => hv v (List.mem_cons_of_mem _ q))]
theorem ux_slots {G : ux_G} : ∀ (av : List Value), (∀ v ∈ av, v.category = 1) → (lg_sl (av.map (ux_cv G))).length = av.length := by
  intro av
  induction av with
  | nil => intro _; rfl
  | cons a r ih =>
    intro hv
    have h1 : a.category = 1 := hv a List.mem_cons_self
    have h2 := ih (fun v q => hv v (List.mem_cons_of_mem _ q))
    unfold lg_sl at h2 ⊢
    rw [List.map_cons, List.flatMap_cons, ux_cv_cat, h1, if_neg (by decide), List.length_append, h2]
    simp
    omega
def ux_L0 (nL : Nat) (av : List Value) : List (Option Value) := av.map some ++ List.replicate (nL - av.length) none
theorem ux_entry {y : MethodName} {av : List Value} {m : MethodId} (hv : ∀ v ∈ av, v.category = 1) {nL : Nat} (hn : av.length ≤ nL) : ∃ ls, entryFrame m (av.map (ux_cv G)).toArray nL = F0 m 0 ls [] ∧ lv_has ls nL (ux_lv G 0 (ux_L0 nL av)) := by
  refine ⟨_, lg_entry_eq m (av.map (ux_cv G)) nL, ?_⟩
  have h1 := lv_entry (av.map (ux_cv G)) (n := nL) (by rw [ux_slots av hv]; exact hn)
  unfold ux_L0
  rw [ux_args av _ 0 hv]
  exact h1
/-- a body without handlers gives the contract -/
theorem ux_enter {y : MethodName} {n d : Nat} {av : List Value} (lk : ux_lk y mi n) (hh : mi.2.2.2.2 = []) (hv : ∀ v ∈ av, v.category = 1) (hn : av.length ≤ mi.2.1) (body : ux_W l G mi (ux_rm d k) (ux_Z G k Q X) 0 (ux_L0 mi.2.1 av) [] h 0) : ux_M l G y mi d k av h Q X := by
  obtain ⟨k1, k2, k3, k4, k5, k6⟩ := lk
  have hcw : ux_cw y mi = .code y mi.1 mi.2.1 mi.2.2.2.1 := by unfold ux_cw; rw [hh]
  refine vx_ofW (cc := mi.1) (maxL := mi.2.1) (ret := mi.2.2.2.1) (ws' := ux_T) k5 (by rw [hcw]) ?_
  intro p e s m args below meth c s₁ B hml ht hP
  obtain ⟨rfl, hw, hH⟩ := hP
  have hts := atoms_spec (ws := ux_cw y mi :: ux_T) B.pre
  obtain ⟨ls, e1, e2⟩ := ux_entry (G := G) (y := y) (m := m) hv hn
  rw [e1]
  have htab : c.exceptionTable.toList = tableOf mi.2.2.2.2 := by
    rw [hh]
    show c.exceptionTable.toList = []
    exact List.eq_nil_iff_forall_not_mem.mpr (fun x z => ht x z)
  exact body p e s m _ below meth c s.heap [] ls ⟨B.exec, B.bytes, hml, by rw [k6]; exact findClass_of_methodNamed B.named, fun w z => hts w (List.mem_cons_of_mem _ z), B.notSynchronized, B.returns, htab, hw⟩ hH va_S.rf e2
/-- .. and one with handlers -/
theorem ux_enterX {y : MethodName} {n d : Nat} {av : List Value} (lk : ux_lk y mi n) (hh : mi.2.2.2.2 ≠ []) (hv : ∀ v ∈ av, v.category = 1) (hn : av.length ≤ mi.2.1) (body : ux_W l G mi (ux_rm d k) (ux_Z G k Q X) 0 (ux_L0 mi.2.1 av) [] h 0) : ux_M l G y mi d k av h Q X := by
  obtain ⟨k1, k2, k3, k4, k5, k6⟩ := lk
  have hcw : ux_cw y mi = .codeWith y mi.1 mi.2.1 mi.2.2.2.1 mi.2.2.2.2 := by
    unfold ux_cw
    split
    · next q => exact absurd q hh
    · rfl
  refine vx_ofWH (cc := mi.1) (maxL := mi.2.1) (ret := mi.2.2.2.1) (hh := mi.2.2.2.2) (ws' := ux_T) k5 (by rw [hcw]) ?_
  intro p e s m args below meth c s₁ B hml hP
  obtain ⟨rfl, hw, hH⟩ := hP
  have hts := atoms_spec (ws := ux_cw y mi :: ux_T) B.pre
  obtain ⟨ls, e1, e2⟩ := ux_entry (G := G) (y := y) (m := m) hv hn
  rw [e1]
  have h0 := hts _ List.mem_cons_self
  rw [hcw] at h0
  have htab : c.exceptionTable.toList = tableOf mi.2.2.2.2 := vx_table (x := y) B h0
  exact body p e s m _ below meth c s.heap [] ls ⟨B.exec, B.bytes, hml, by rw [k6]; exact findClass_of_methodNamed B.named, fun w z => hts w (List.mem_cons_of_mem _ z), B.notSynchronized, B.returns, htab, hw⟩ hH va_S.rf e2
end UXE
