/-! THE LAW, WHOLE. -/
theorem wL_c8 : Cond.classLink RL 8 RX5 ∈ ux_T := ux_mem (n := 160) (by decide +kernel) (by decide +kernel)
theorem wL_c155 : Cond.classLink RL 155 RX6 ∈ ux_T := ux_mem (n := 1350) (by decide +kernel) (by decide +kernel)
theorem wL_l154 : Cond.methodLink RL 154 yX5_init ∈ ux_T := ux_mem (n := 162) (by decide +kernel) (by decide +kernel)
theorem wL_l157 : Cond.methodLink RL 157 yX6_init ∈ ux_T := ux_mem (n := 1352) (by decide +kernel) (by decide +kernel)
theorem cx_to_ux {l : Launch} {G : ux_G} {mi : ux_I} {b : Bool} {R : Room} {Z : ux_Zt} {pc : Nat} {L : List (Option Value)} {st : List Value} {u : Nat} (k : ux_W l G mi R Z pc L st X0 u) : cx_W l G mi b R Z pc L st [] 204 u := by
  intro p e s m args below meth c H locs ls C hP hS hl
  refine k p e s m args below meth c H locs ls C.1 (fun i q hq => ?_) hS hl
  rcases Nat.lt_or_ge i 204 with z | z
  · rw [ux_ws_at G X0 z] at hq
    cases hq
    exact hP.2 i z (ux_or_lt z)
  · rw [ux_ws_ge G X0 (by omega)] at hq
    cases hq
theorem x0_s {k j : Nat} (h : (k < 176 ∧ k % 16 ≠ 6 ∧ k % 16 ≠ 7) ∨ k = 177) : xgi X0 k j = 0 := by
  rw [X0_g (by omega)]
  unfold x0
  rcases h with h | rfl
  · rw [if_pos h.1, if_neg (by omega), if_neg (by omega)]
  · simp
theorem rC_start : rC 0 s_new X0 := by
  refine ⟨x0_s (by omega), x0_s (by omega), fun f j h => ?_⟩
  rcases h with ⟨rfl, h⟩ | ⟨_, _, h⟩ | ⟨h1, h2, h⟩ | ⟨_, _, h⟩
  · rw [x0_s (by omega)]; rfl
  · exact absurd h (Nat.not_lt_zero _)
  · rw [X0_g (by omega)]
    rcases (show f = 6 ∨ f = 7 by omega) with rfl | rfl
    · show x0 6 j = iI 20
      unfold x0
      rw [if_pos (by decide), if_pos (by omega)]; decide
    · show x0 7 j = iI 30
      unfold x0
      rw [if_pos (by decide), if_neg (by omega), if_pos (by omega)]; decide
  · exact absurd h (Nat.not_lt_zero _)
theorem rM_start : rM 193 0 s_new X0 := by
  refine ⟨(X0_g (by decide) _).trans (by decide), (X0_g (by decide) _).trans (by decide), fun f j h => ?_⟩
  rcases h with ⟨rfl, h⟩ | ⟨_, _, h⟩ | ⟨h1, h2, h⟩ | ⟨_, _, h⟩
  · rw [X0_g (by decide)]
    rcases h with rfl | rfl <;> decide
  · exact absurd h (Nat.not_lt_zero _)
  · rw [X0_g (by decide)]
    rcases (show f = 6 ∨ f = 7 by omega) with rfl | rfl
    · rcases (show j = 0 ∨ j = 1 ∨ j = 2 ∨ j = 3 ∨ j = 4 ∨ j = 5 by omega) with rfl | rfl | rfl | rfl | rfl | rfl <;> decide
    · rcases (show j = 0 ∨ j = 1 ∨ j = 2 ∨ j = 3 ∨ j = 4 ∨ j = 5 by omega) with rfl | rfl | rfl | rfl | rfl | rfl <;> decide
  · exact absurd h (Nat.not_lt_zero _)
theorem RL_start : RLw 0 X0 := by
  have z : ∀ (k j : Nat) (v : Int32), (k ≠ 202 ∧ k ≠ 203) → x0 k j = v → xgi X0 k j = v := fun k j v h e => (X0_g h j).trans e
  refine ⟨s_new, [], false, s_new, [], -1, -1, ⟨Inv_new, InvF_new, fun B h => absurd h (by simp), fun h => absurd h (by decide), ⟨by decide, by decide⟩, Or.inl rfl⟩, ⟨rC_start, ⟨0, by decide, z _ _ _ (by decide) (by decide), z _ _ _ (by decide) (by decide), by decide, fun k A h => absurd h (by simp)⟩, z _ _ _ (by decide) (by decide), fun h => absurd h (by decide), rI_nil (z _ _ _ (by decide) (by decide)), z _ _ _ (by decide) (by decide), z _ _ _ (by decide) (by decide)⟩,
    ⟨rM_start, ⟨z _ _ _ (by decide) (by decide), by decide, fun B h => absurd h (by simp), fun k B h => absurd h (by simp)⟩, ⟨z _ _ _ (by decide) (by decide), fun h => absurd h (by decide)⟩, rIm_nil (z _ _ _ (by decide) (by decide)), z _ _ _ (by decide) (by decide), z _ _ _ (by decide) (by decide)⟩⟩
set_option maxRecDepth 100000 in
theorem law_start {l : Launch} {G : ux_G} {hh : List (Nat × Nat × Nat × Nat)} {b Ln : Nat} {xs : Nat → Int32} (al : ux_al G) (hL : Ln ≤ 3072) : cx_W l G (iW hh) false room_1 (lZ G b Ln xs) 0 [some (.ref (1000 + b)), none, none, none, none, none, none, none, none] [] [] 0 0 := by
  refine c_new (k1 := 176) (du := 2) dL_law_0 (ci := 5) rfl ux_iwX5 tyX5_ok wL_c8 jX5 zX5 (hf_of (N := 10) rfl (by decide +kernel)) al (by decide) (by decide) (by decide) (by decide) ?_
  refine c_dup dL_law_3 rfl ?_
  refine c_init (Or.inl wL_l154) nX5_init kX5_init (c_Desk al) dL_law_4 rfl rfl rfl (by decide) (by decide) (Nat.le_of_ble_eq_true rfl) ?_
  refine c_astore_n (j := 1) dL_law_7 rfl rfl rfl rfl ?_
  refine c_new (k1 := 192) (du := 3) dL_law_8 (ci := 6) rfl ux_iwX6 tyX6_ok wL_c155 jX6 zX6 (hf_of (N := 18) rfl (by decide +kernel)) al (by decide) (by decide) (by decide) (by decide) ?_
  refine c_dup dL_law_11 rfl ?_
  refine c_init (Or.inl wL_l157) nX6_init kX6_init (c_Model al) dL_law_12 rfl rfl rfl (by decide) (by decide) (Nat.le_of_ble_eq_true rfl) ?_
  refine c_astore_n (j := 2) dL_law_15 rfl rfl rfl rfl ?_
  refine c_iconst (v := nI 1) dL_law_16 (by decide) ?_
  refine c_newa (t0 := 2) (N := 1) (k1 := 202) (du := 1) (a0 := (1, .inr (.inl (fun _ => 0)))) dL_law_17 rfl w_al rfl (fun _ _ h => h) (fun _ => rfl) rfl (by decide) (by decide) al (by decide) (by decide) (by decide) (by decide) ?_
  refine c_O (ct_close rfl (by rw [ux_en_l (show ux_kd 202 = 12 by rfl)]; rfl)) ?_
  refine c_astore_n (j := 3) dL_law_19 rfl rfl rfl rfl ?_
  refine c_iconst (v := nI 1) dL_law_20 (by decide) ?_
  refine c_newa (t0 := 3) (N := 1) (k1 := 203) (du := 1) (a0 := (1, .inr (.inr (.inr (.inl (fun _ => 0)))))) dL_law_21 rfl w_ad rfl (fun _ _ h => h) (fun _ => rfl) rfl (by decide) (by decide) al (by decide) (by decide) (by decide) (by decide) ?_
  refine c_O (ct_close rfl (by rw [ux_en_d (show ux_kd 203 = 13 by rfl)]; rfl)) ?_
  refine c_astore (j := 4) dL_law_23 rfl rfl rfl ?_
  refine c_iconst (v := nI (6 * 0)) dL_law_25 (by decide) ?_
  refine c_istore (j := 5) dL_law_26 rfl rfl rfl ?_
  refine cx_to_ux ?_
  exact lw_loop hL (Ln + 7) 0 X0 _ (RLw_mono RL_start (by decide) (by decide)) (by omega) (by decide) (by omega)
theorem tab_of : ∀ T, ∃ hh, T = tableOf hh := by
  intro T
  induction T with
  | nil => exact ⟨[], rfl⟩
  | cons a T ih =>
    obtain ⟨hh, e⟩ := ih
    obtain ⟨x, y, z, w⟩ := a
    exact ⟨(x, y, z, w) :: hh, by rw [e]; rfl⟩
theorem whole_start {p : Program} {e : Env} {s : State} {m : MethodId} {below : List Frame} {meth : Method} {c : Code} (l : Launch) (hflags : l.flags = flags0) {b L : Nat} {xs : Nat → Int32} (hL : L ≤ 3072) (C0 : lw_At p s m meth c b L xs) : W p l e room_1 s m #[Value.ref b] below meth c s.heap [] 0 0 (lw_Z below #[Value.ref b] s) (entryFrame m ([Value.ref b] : List Value).toArray 9) := by
  obtain ⟨hx, hb, hr, hml, hown, hts, hX, hbl, hlocks, hgv⟩ := id C0
  obtain ⟨D, cA, hK⟩ := k_start hts
  obtain ⟨G, hG⟩ : ∃ G : ux_G, G = (s.heap.size, fun k => s.heap.size + ux_or k, D, cA) := ⟨_, rfl⟩
  have hG1 : G.1 = s.heap.size := by rw [hG]
  have al : ux_al G := by rw [hG]; exact fun k _ => rfl
  have hK2 : va_K G.2.2.1 ux_cl (ux_ty G) s := by rw [hG]; exact hK _ _
  have hw := wf_start hflags al hG1 hK2 hts hgv
  obtain ⟨hh, hhT⟩ := tab_of c.exceptionTable.toList
  have hAO : va_AO RX4 s := va_AO.of (A := #[Value.ref b]) (hts _ (List.mem_of_getElem? (i := 273) (by decide +kernel)))
  have C : cx_C l G (iW hh) false p s m #[Value.ref b] meth c := ⟨⟨hx, hb, hml, hown, ux_tin hts, hlocks, hr, hhT, hw⟩, hAO, fun y => by cases y⟩
  obtain ⟨ls, e1, e2⟩ := ux_entry (G := G) (y := yX5_init) (m := m) (av := [.ref (1000 + b)]) (nL := 9) (fun v hv => by rw [List.mem_singleton.mp hv]; rfl) (by show 1 ≤ 9; decide)
  have e0 : ([Value.ref (1000 + b)] : List Value).map (ux_cv G) = [Value.ref b] := by rw [List.map_cons, ux_cv_raw]; rfl
  rw [e0] at e1
  rw [e1]
  have key := law_start (l := l) (hh := hh) (b := b) (xs := xs) al hL p e s m #[Value.ref b] below meth c s.heap [] ls C ⟨hG1.symm, fun k _ h => absurd h (Nat.not_lt_zero _)⟩ va_S.rf e2
  intro T hT X
  obtain ⟨t, a1, b1⟩ := key T hT X
  exact ⟨t, a1, b1 ⟨rfl, hX, hbl, hG1⟩⟩
set_option maxHeartbeats 4000000 in
theorem lw_walk (l : Launch) (hflags : l.flags = flags0) (b : Addr) (xs : List Int32) : MetFree l x (headSpec (Jvm.Cond.code x code maxLocals ret :: tables_1) room_1) (lw_P b xs) (fun _ _ _ _ _ => True) lw_Q := by
  refine MetFree.of_bodyS (code := code) (maxLocals := maxLocals) (ret := ret) (by decide) ?_ ?_
  · intro args s m h hn
    obtain ⟨meth, c, h1, h2, h3, h4, h5, h6, -, -⟩ := Cond.code_spec hn (atoms_spec (ws := Jvm.Cond.code x code maxLocals ret :: tables_1) h _ List.mem_cons_self)
    exact ⟨meth, c, h1, h2, h3, h4, h5, h6⟩
  · intro p e s m args below meth c s₁ B hml0 hP _
    obtain ⟨rfl, hx, hbd, hgv⟩ := hP
    obtain ⟨scr, harrAt, hlist, hof, hsmall⟩ := hx
    obtain ⟨hcb, hkn, -, -⟩ := State.arrayAt?_spec harrAt
    have hown : s.vm.findClass R_law = some m.cls := findClass_of_methodNamed B.named
    have hts0 : ∀ c ∈ (Jvm.Cond.code x code maxLocals ret :: tables_1), c.before #[Value.ref b] s = true := atoms_spec (ws := Jvm.Cond.code x code maxLocals ret :: tables_1) B.pre
    have hts : ∀ w ∈ lw_tbl, w.before #[Value.ref b] s = true := k2_hts_sels lw_privs (fun w hw => hts0 w (List.mem_cons_of_mem _ hw)) lw_privs_ok
    have hml : c.maxLocals = 9 := B.maxLocals_eq (hts0 _ List.mem_cons_self)
    have X₀ : Stand p l e room_1 s m #[Value.ref b] below meth c s₁ [] 0 0 := Stand.of_body B
    have hh0 : s₁.heap = s.heap := by rw [B.state]; rfl
    have hsz : scr.slots.size = xs.length := by rw [← Array.length_toList, hlist, List.length_map]
    have hval : ∀ j : Nat, j < xs.length → scr.slots[j]? = some (.int (xs.getD j 0)) := fun j hj => by
      rw [← Array.getElem?_toList, hlist]
      simp [hj]
    have hbl : b < s.heap.size := (Array.getElem?_eq_some_iff.mp hcb).1
    have hX : va_X b xs.length (fun j => xs.getD j 0) s s.heap := ⟨scr, hcb, hof, hkn, hsz, hval⟩
    have K : W p l e room_1 s m #[Value.ref b] below meth c s₁.heap [] 0 0 (lw_Z below #[Value.ref b] s) (entryFrame m ([Value.ref b] : List Value).toArray 9) := by
      rw [hh0]
      exact whole_start l hflags hbd ⟨B.exec, B.bytes, B.returns, hml, hown, hts, hX, hbl, B.notSynchronized, hgv⟩
    obtain ⟨t, a1, o, b1, b2, b3⟩ := K s₁ rfl X₀
    exact ⟨t, o, a1, b1, b2, b3⟩
theorem lw_pre_spec {args : Array Value} {s : State} (h : (Jvm.Cond.and given_1 narrow_1).before args s = true) (hr : rest_1_c.before args s = true) : ∃ (b : Addr) (xs : List Int32), lw_P b xs args s := by
  have hs := flat_of_before _ h
  have hq := flat_of_before _ hr
  have hc : (Cond.count 1).before args s = true := hs _ (by decide +kernel)
  have harr : (Cond.arrayOf (.arg 0) .int).before args s = true := hs _ (by decide +kernel)
  have hle : (Cond.le (.length (.arg 0)) (.int 3072)).before args s = true := hs _ (by decide +kernel)
  have hlen : (Cond.isInt (.length (.arg 0))).before args s = true := hq _ (by decide +kernel)
  have hall : (Cond.all (.arg 0) (.isInt (.elem (.arg 0) (.index 0)))).before args s = true := hq _ (by decide +kernel)
  obtain ⟨b, xs, hb, hx⟩ := State.ints_of_pre rfl harr hlen hall
  have hsm : xs.length < 2 ^ 31 := hx.choose_spec.2.2.2
  have hev : (Term.length (.arg 0)).eval args s none [] s = some (.int xs.length.toInt32) := hx.length_eval hb
  have hv := Cond.le_ints hev (show (Term.int 3072).eval args s none [] s = some (.int 3072) from rfl)
  have hd : xs.length.toInt32 ≤ 3072 := by
    simpa [Cond.before, Cond.holds, hv] using hle
  have hN : xs.length ≤ 3072 := (Int32.ofNat_le_ofNat hsm (by decide)).mp (show Int32.ofNat xs.length ≤ Int32.ofNat 3072 from hd)
  exact ⟨b, xs, Cond.one_arg hc (show args[0]? = some (.ref b) from hb), hx, hN, h⟩
theorem lw_comes (l : Launch) (hflags : l.flags = flags0) : Comes l x (Jvm.Cond.code x code maxLocals ret :: tables_1) room_1 (fun tb e args s => Calls_1 tb e args s ∧ rest_1 tb e args s ∧ Pre_1 tb e args s)
    (fun _ _ args s o t => lw_Q args s o t) := by
  intro p e ha hc hk s m args below hf hfit hheap happ hpre
  obtain ⟨b, xs, hP⟩ := lw_pre_spec hpre.2.2 hpre.2.1
  obtain ⟨k, o, h1, h2, h3, hQ⟩ := lw_walk l hflags b xs p e ha hc hk s m args below hf ((Spec.applies_iff_loose hf).mp happ).1 hP trivial
  exact ⟨k, o, h1, h2, h3, hQ⟩
theorem lw_frame {s t : State} {o : Outcome} {args : Array Value} (h : State.butDraws s t lw_cs (fun t1 => Framed s o t1 [] 603072 7198826)) :
    State.butDraws s t [Jvm.Choice.named "NaN.bits"] (fun t1 => Framed s o t1 (fieldLocs frame_1_writes args s ++ arrayLocs frame_1_arrays args s ++ staticLocs frame_1_statics s) 603072 7198826) := h
theorem lw_limb (L : Cond) (hL : ∀ (args : Array Value) (s t : State), L.after args s (.returned (some (.int 1))) t = true) :
    ArmFor flags0 classFile x code maxLocals ret World_1 tables_1 room_1 Calls_1 rest_1 Pre_1
      (fun tb e a s o t => postC L tb e a s o t ∧ State.butDraws s t [Jvm.Choice.named "NaN.bits"] (fun t1 => Framed s o t1 (fieldLocs frame_1_writes a s ++ arrayLocs frame_1_arrays a s ++ staticLocs frame_1_statics s) 603072 7198826)) := by
  intro l hflags _ _ p e ha hc hk s m args below hf hfit hheap happ hpre
  obtain ⟨k, o, h1, h2, h3, rfl, hF⟩ := lw_comes l hflags p e ha hc hk s m args below hf hfit hheap happ hpre
  exact ⟨k, _, h1, h2, h3, hL args s _, lw_frame hF⟩
theorem i_vc : Claimed_1_1 ∧ Claimed_1_2 := ⟨lw_limb limb_1_1 (fun args s t => by simp [limb_1_1, Cond.after, Cond.holds, Cond.value]), lw_limb limb_1_2 (fun args s t => Cond.after_iff.mpr (by
  first | (rw [show limb_1_2 = Cond.eq .result (.int 1) from rfl, Cond.eq_ints (x := 1) (y := 1) rfl rfl]; simp; done) | (simp [limb_1_2, Cond.value, Term.eval]; done)))⟩
