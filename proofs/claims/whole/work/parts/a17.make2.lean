/-! THE MAKING OF THE WORLD: objects, arrays, fields, calls. -/
/-- a field that its own class writes: link, number, type -/
def ux_pa (fin : Bool) (own : String) (idx ci j : Nat) (t : FieldType) : Prop := ∃ (C : String) (T : u_T) (ty : Nat → FieldType), ux_cl[ci]? = some (C, T, ux_nf ci) ∧ j < ux_nf ci ∧ (T j).1 = C ∧ (∀ w ∈ u_ws C T (ux_nf ci), w ∈ ux_T) ∧ (∀ k, k < ux_nf ci → parseFieldDescriptor (T k).2.2.1 = some (ty k)) ∧ (∀ a, a < ux_nf ci → ∀ b, b < ux_nf ci → a ≠ b → (T a).2.1 ≠ (T b).2.1) ∧
  Cond.fieldLink own idx C (T j).2.1 (T j).2.2.1 ∈ ux_T ∧ parseFieldDescriptor (T j).2.2.1 = some t ∧ (T j).2.2.2 = fin ∧ (fin = true → (T j).1 = own)
section CXS
variable {l : Launch} {G : ux_G} {mi : ux_I} {b : Bool} {R : Room} {Z : ux_Zt} {pc : Nat} {L : List (Option Value)} {st : List Value} {O : List (Nat × va_E)} {n u : Nat}
theorem c_put {fin : Bool} {idx k0 ci j : Nat} {t : FieldType} {v : Value} {fs : List Value} (hb : fin = true → b = true) (f : ux_pa fin mi.2.2.1 idx ci j t) (d : decode mi.1 pc = .ok (.putfield idx, 3)) (al : ux_al G) (hk : ux_kd k0 = ci) (ho : ux_or k0 < n) (hn : narrow t (ux_cv G v) = ux_cv G v) (hf : fits t (ux_cv G v) = true) (hl : j < fs.length)
    (k : cx_W l G mi b R Z (pc + 3) L st ((k0, .inr (ci, fs.set j (ux_cv G v))) :: O) n u) : cx_W l G mi b R Z pc L (v :: .ref k0 :: st) ((k0, .inr (ci, fs)) :: O) n u := by
  intro p e s m args below meth c H locs ls C hP hS hl'
  obtain ⟨CC, T, ty0, hc, hj, hC1, hin, hty, hnm, hlink, hd, hfin, hown⟩ := f
  obtain ⟨c1, c2, c3, c4, c5, c6, c7, c8, w⟩ := id C.1
  have w8 := w.2.2.2.2.2.2.2.1
  have hk204 : k0 < 204 := ux_kd_lt (by have := ux_cl_lt hc; omega)
  have hat := hP.2 k0 hk204 ho
  rw [ct_top] at hat
  obtain ⟨r, h1, cell, q1, q2, q3, q4⟩ := hat
  have hr : r = (CC, T, ux_nf ci) := Option.some.inj (h1.symm.trans hc)
  subst hr
  have hap := va_apart (own := mi.2.2.1) c5 hin ty0 hty hnm w8 hc
  obtain ⟨hSl, hfc, kC, hkC, hkind⟩ := w8.1 ci _ hc
  obtain ⟨cf, kf, fi, ff, hi, hsl⟩ := hSl j hj
  have hlay := c5 _ (hin _ (u_in_lay hj))
  have hst := (u_facts hfc hkC (u_lays c5 hin hj) hi).1
  have hi2 : s.fieldFound? CC (T j).2.1 (T j).2.2.1 = some (cf, kf, fi, ff) := by rw [hC1] at hi; exact hi
  show W p l e R s m args below meth c H locs u (6 * u) (Z args s below) (F0 m pc ls (ux_cv G v :: ux_cv G (.ref k0) :: st.map (ux_cv G)))
  rw [ux_cv_ref G hk204]
  have go : ∀ H' : Heap, H'[G.2.1 k0]? = some (cell.setSlot ff.slot (ux_cv G v)) → H'.size = H.size → (∀ q, q ≠ G.2.1 k0 → H'[q]? = H[q]?) → W p l e R s m args below meth c H' (locs ++ [⟨G.2.1 k0, ff.slot⟩]) u (6 * u) (Z args s below) (F0 m (pc + 3) ls (st.map (ux_cv G))) := by
    intro H' e1 e2 e3
    rw [hsl] at e1
    exact k p e s m args below meth c H' _ ls C (cx_set al hP hk204 e2 ⟨_, hc, t_OB.to (V := updV (vp_V fs) j (ux_cv G v)) ⟨_, e1, q2, q3, t_set q4 hap hj _⟩ (fun i _ => vp_updV_set hl _ i)⟩ e3) (hS.put e2 e3 ((ux_al_ok al).2 k0 hk204)) hl'
  cases fin with
  | false =>
    unfold u_lay at hlay
    rw [if_neg (by rw [hfin]; decide)] at hlay
    have h6 := u_store hfc hkC hkind hlay hi hd hn hf
    exact W.putK c1 c2 (f := ff) ⟨c4, c5 _ hlink, ⟨_, _, _, hi2⟩, hst⟩ (by rw [q2]; exact h6) q1 q3 (by rw [hsl]; exact k2_hasslot (q4 j hj)) rfl rfl d go
  | true =>
    have hown := hown rfl
    unfold u_lay at hlay
    rw [if_pos hfin] at hlay
    have hcf : m.cls = cf := by
      obtain ⟨_, _, c', _, _, _, -, -, hf', -, -, -, hown2, -⟩ := Cond.laysFinal_spec hlay
      have e1 : c' = cf := by have := hi.symm.trans hf'; simp at this; exact this.1.symm
      rw [hown] at hown2
      rw [← e1]; exact Option.some.inj (c4.symm.trans hown2)
    have h6 := u_fits hfc hkC hkind (Or.inr hlay) hi hd hn hf
    exact W.putFinK c1 c2 c4 (c5 _ hlink) hi2 hst hcf (C.2.2 (hb rfl)) (by rw [q2]; exact h6) q1 q3 (by rw [hsl]; exact k2_hasslot (q4 j hj)) rfl rfl d go
/-- the next field gets what it will hold: a reference -/
theorem c_pr {fin : Bool} {idx k0 ci j q : Nat} {t : FieldType} (f : ux_pa fin mi.2.2.1 idx ci j t) (d : decode mi.1 pc = .ok (.putfield idx, 3)) (al : ux_al G) (hk : ux_kd k0 = ci) (ho : ux_or k0 < n) (hr : ux_rf k0 j = some q) (hq : q < 204) (hj : j < ux_ln k0) (hn : ∀ a, narrow t (.ref a) = .ref a) (hf : ∀ a, fits t (.ref a) = true)
    (k : cx_W l G mi true R Z (pc + 3) L st ((k0, .inr (ci, gfs G k0 (j + 1))) :: O) n u) : cx_W l G mi true R Z pc L (.ref q :: .ref k0 :: st) ((k0, .inr (ci, gfs G k0 j)) :: O) n u := by
  have ev : ux_cv G (.ref q) = ux_fv G X0 k0 j := by unfold ux_fv; rw [hr, ux_cv_ref G hq]
  refine c_put (fun _ => rfl) f d al hk ho (by rw [ux_cv_ref G hq]; exact hn _) (by rw [ux_cv_ref G hq]; exact hf _) (by rw [gfs_len]; exact hj) ?_
  rw [ev, gfs_set hj]
  exact k
/-- .. a number -/
theorem c_pi {fin : Bool} {idx k0 ci j : Nat} {t : FieldType} {x : Int32} (f : ux_pa fin mi.2.2.1 idx ci j t) (d : decode mi.1 pc = .ok (.putfield idx, 3)) (al : ux_al G) (hk : ux_kd k0 = ci) (ho : ux_or k0 < n) (hr : ux_rf k0 j = none) (hx : xgi X0 k0 j = x) (hj : j < ux_ln k0) (hn : narrow t (.int x) = .int x) (hf : fits t (.int x) = true)
    (k : cx_W l G mi true R Z (pc + 3) L st ((k0, .inr (ci, gfs G k0 (j + 1))) :: O) n u) : cx_W l G mi true R Z pc L (.int x :: .ref k0 :: st) ((k0, .inr (ci, gfs G k0 j)) :: O) n u := by
  have ev : ux_cv G (.int x) = ux_fv G X0 k0 j := by unfold ux_fv; rw [hr, hx]; rfl
  refine c_put (fun _ => rfl) f d al hk ho hn hf (by rw [gfs_len]; exact hj) ?_
  rw [ev, gfs_set hj]
  exact k
/-- a field that holds already what it will -/
theorem c_sk {k0 ci j : Nat} (e : gdf k0 j = ux_fv G X0 k0 j) (k : cx_W l G mi b R Z pc L st ((k0, .inr (ci, gfs G k0 (j + 1))) :: O) n u) : cx_W l G mi b R Z pc L st ((k0, .inr (ci, gfs G k0 j)) :: O) n u := by
  rw [gfs_skip e]
  exact k
/-- an array is made -/
theorem c_newa {at' : ArrayType} {t : FieldType} {t0 N k1 du : Nat} {x : Int32} {a0 : vp_A} (d : decode mi.1 pc = .ok (.newarray at', 2)) (ht : newarray.typeOf at' = t) (harr : Cond.arrayClass t ∈ ux_T) (htt : (ux_ty G)[t0]? = some (G.2.2.2 t0, t)) (hra : ∀ (U : State) (cA : ClassId), va_RA U cA t → U.vm.findClass ("[" ++ t.toString) = some cA) (ha : ∀ cA, vp_cell cA a0 = arrV cA N (fun _ => defaultValue t)) (hx : x = nI N) (hN : N ≤ 4000) (hb : N * componentBytes t ≤ 536870912) (al : ux_al G) (hk : k1 < 204) (ho : ux_or k1 = n) (hdu : 1 ≤ du ∧ N ≤ 6 * du) (hR : u + du ≤ R.cells ∧ 6 * (u + du) ≤ R.slots)
    (k : cx_W l G mi b R Z (pc + 2) L (.ref k1 :: st) ((k1, .inl (G.2.2.2 t0, a0)) :: O) (n + 1) (u + du)) : cx_W l G mi b R Z pc L (.int x :: st) O n u := by
  intro p e s m args below meth c H locs ls C hP hS hl'
  subst ht; subst hx
  obtain ⟨c1, c2, c3, c4, c5, c6, c7, c8, w⟩ := id C.1
  have w8 := w.2.2.2.2.2.2.2.1
  show W p l e R s m args below meth c H locs u (6 * u) (Z args s below) (F0 m pc ls (.int (nI N) :: st.map (ux_cv G)))
  refine va_newaK (N := N) (h := H.size) c1 c2 (c5 _ harr) rfl d rfl (fun q => by have := nI_leI (a := 0) (b := N) (by omega) (by omega); exact absurd (this.mpr (by omega)) (Int32.not_le.mpr q)) (nI_clamp (by omega)) hb (by omega) (by omega) rfl (fun H' cA e1 z1 o1 hAr hNm => ?_)
  have ecA : cA = G.2.2.2 t0 := Option.some.inj (hNm.symm.trans (hra s _ (w8.2 t0 _ htt).2))
  subst ecA
  obtain ⟨hP1, ea⟩ := cx_push (e1 := .inl (G.2.2.2 t0, a0)) al hP hk ho z1 (by show H'[H.size]? = some (vp_cell _ _); rw [ha]; exact e1) o1
  have hS1 : va_S (ux_A G) s.heap H' locs := ⟨Nat.le_trans hS.1 (by omega), fun x h1 h2 => (o1 x (Nat.lt_of_lt_of_le h1 hS.1)).trans (hS.2.1 x h1 h2), hS.2.2⟩
  refine W.widen (k := u + du) (n := 6 * (u + du)) (by omega) (by omega) ?_
  have := k p e s m args below meth c H' locs ls C hP1 hS1 hl'
  rw [List.map_cons, ux_cv_ref G hk, ea] at this
  exact this
/-- an object is made -/
theorem c_new {idx ci k1 du : Nat} {CC : String} {T : u_T} {ty : Nat → FieldType} (d : decode mi.1 pc = .ok (.new idx, 3)) (hc : ux_cl[ci]? = some (CC, T, ux_nf ci)) (hin : ∀ w ∈ u_ws CC T (ux_nf ci), w ∈ ux_T) (hty : ∀ k, k < ux_nf ci → parseFieldDescriptor (T k).2.2.1 = some (ty k)) (hcl : Cond.classLink mi.2.2.1 idx CC ∈ ux_T) (hinst : Cond.instantiable CC (ux_nf ci) ∈ ux_T) (hini : Cond.initialized CC ∈ ux_T) (hfs : ∀ j, j < ux_nf ci → defaultValue (ty j) = vp_V (gfs G k1 0) j) (al : ux_al G) (hk : k1 < 204) (ho : ux_or k1 = n) (hdu : 1 ≤ du ∧ ux_nf ci ≤ 6 * du) (hR : u + du ≤ R.cells ∧ 6 * (u + du) ≤ R.slots)
    (k : cx_W l G mi b R Z (pc + 3) L (.ref k1 :: st) ((k1, .inr (ci, gfs G k1 0)) :: O) (n + 1) (u + du)) : cx_W l G mi b R Z pc L st O n u := by
  intro p e s m args below meth c H locs ls C hP hS hl'
  obtain ⟨c1, c2, c3, c4, c5, c6, c7, c8, w⟩ := id C.1
  have w8 := w.2.2.2.2.2.2.2.1
  have hKn := w8.1 ci _ hc
  refine W.newcK c1 c2 c4 (c5 _ hcl) (c5 _ hinst) (c5 _ hini) rfl d (by omega) (by omega) hKn.2.1 rfl (fun H' kC hkC e1 z1 o1 => ?_)
  obtain ⟨hP1, ea⟩ := cx_push (e1 := .inr (ci, gfs G k1 0)) al hP hk ho z1 ⟨_, hc, (u_born ty c5 hin hKn hkC e1 hty).to hfs⟩ o1
  have hS1 : va_S (ux_A G) s.heap H' locs := ⟨Nat.le_trans hS.1 (by omega), fun x h1 h2 => (o1 x (Nat.lt_of_lt_of_le h1 hS.1)).trans (hS.2.1 x h1 h2), hS.2.2⟩
  refine W.widen (k := u + du) (n := 6 * (u + du)) (by omega) (by omega) ?_
  have := k p e s m args below meth c H' locs ls C hP1 hS1 hl'
  rw [List.map_cons, ux_cv_ref G hk, ea] at this
  exact this
/-- Object's constructor -/
theorem c_obj {idx : Nat} {k0 : Nat} (hlink : Cond.methodLink mi.2.2.1 idx Lib.objectInit ∈ ux_T) (hinst : Cond.instanceMethod Lib.objectInit ∈ ux_T) (hcode : Cond.code Lib.objectInit ⟨#[0xb1]⟩ 1 none ∈ ux_T) (d : decode mi.1 pc = .ok (.invokespecial idx, 3)) (hk : k0 < 204) (hR : 1 ≤ R.frames ∧ 30 ≤ R.locals) (hc : (st.map fun v => v.category).sum ≤ 8) (k : cx_W l G mi b R Z (pc + 3) L st O n u) : cx_W l G mi b R Z pc L (.ref k0 :: st) O n u := by
  intro p e s m args below meth c H locs ls C hP hS hl'
  obtain ⟨c1, c2, c3, c4, c5, c6, c7, c8, w⟩ := id C.1
  show W p l e R s m args below meth c H locs u (6 * u) (Z args s below) (F0 m pc ls (ux_cv G (.ref k0) :: st.map (ux_cv G)))
  rw [ux_cv_ref G hk]
  have hr := ux_room (G := G) (rest := st) (m := m) (pc := pc) (ls := ls) (st0 := .ref (G.2.1 k0) :: st.map (ux_cv G)) hc
  refine W.objInit c1 c2 c4 (c5 _ hlink) (c5 _ hinst) (c5 _ hcode) rfl (by rw [c3]; exact hl'.1) rfl d hR.1 (by omega) ?_
  exact k p e s m args below meth c H locs ls C hP hS hl'
end CXS
def cx_Pc (l : Launch) (G : ux_G) (av : List Value) (O : List (Nat × va_E)) (n : Nat) : Array Value → State → Prop := va_Pc (av.map (ux_cv G)) (fun U => (ux_wf l G U ∧ va_AO RX4 U) ∧ cx_P G O n U.heap)
def cx_Qc (G : ux_G) (O : List (Nat × va_E)) (n : Nat) : Array Value → State → Outcome → State → Prop := fun _ st o t => (o = .returned none ∧ cx_P G O n t.heap) ∧ va_F (ux_A G) st t
/-- a maker's contract: from the world O, n to the world O', n' -/
def cx_M (l : Launch) (G : ux_G) (y : MethodName) (mi : ux_I) (d k : Nat) (av : List Value) (O : List (Nat × va_E)) (n : Nat) (O' : List (Nat × va_E)) (n' : Nat) : Prop :=
  Met l y (ux_cw y mi :: ux_T) (ux_rm d k) (cx_Pc l G av O n) (cx_Qc G O' n') k (6 * k) (ux_A G)
theorem cx_Pc_blind {l : Launch} {G : ux_G} {av : List Value} {O : List (Nat × va_E)} {n : Nat} : FrameBlind (cx_Pc l G av O n) := by
  rintro a U g mk ⟨e, ⟨hw, ha⟩, hh⟩
  exact ⟨e, ⟨ux_wf.blind (U := U) (V := U.calling g mk a) rfl rfl hw, ha.moved (u := U) (U := U.calling g mk a) (Vm.Alike.refl U.vm)⟩, hh⟩
section CXC
variable {l : Launch} {G : ux_G} {mi : ux_I} {b : Bool} {R : Room} {Z : ux_Zt} {pc : Nat} {L : List (Option Value)} {st : List Value} {O : List (Nat × va_E)} {n u : Nat}
theorem cx_pres {s : State} {H : Heap} {locs : List Loc} {av : List Value} (w : ux_wf l G s) (ha : va_AO RX4 s) (hP : cx_P G O n H) (hS : va_S (ux_A G) s.heap H locs) : ∀ U : State, U.heap = H → s.WarmedH U.vm → cx_Pc l G av O n (av.map (ux_cv G)).toArray U :=
  fun U hU hW => ⟨rfl, ⟨w.on hS hU hW, ha.moved hW.alike⟩, by rw [hU]; exact hP⟩
theorem cx_run {p : Program} {e : Env} {s : State} {m : MethodId} {args : Array Value} {below : List Frame} {meth : Method} {c : Code} {H : Heap} {locs : List Loc} {ls : Array Slot} {k' n' : Nat} {O' : List (Nat × va_E)} {rest : List Value} {st0 : List Value} {a : Array Value}
    (C : cx_C l G mi b p s m args meth c) (hS : va_S (ux_A G) s.heap H locs) (hl : lv_has ls mi.2.1 (ux_lv G 0 L))
    (hr : va_Run p l e R s m args below meth c H locs u (6 * u) k' (6 * k') (F0 m pc ls st0) (rest.map (ux_cv G)) (cx_Qc G O' n' a) (ux_A G))
    (kk : cx_W l G mi b R Z (pc + 3) L rest O' n' (u + k')) : W p l e R s m args below meth c H locs u (6 * u) (Z args s below) (F0 m pc ls st0) := by
  intro T hT X
  have e6 : 6 * u + 6 * k' = 6 * (u + k') := by omega
  obtain ⟨v, st₀, t, T', L0, h0, X', hL, e1, e2, ⟨⟨hv, hw⟩, hF⟩, st⟩ := hr T hT X
  cases hv
  have hS2 := ux_kept h0 e1 hS hL hF
  rw [← e1] at hw
  rw [e6] at X'
  obtain ⟨t2, a1, b1⟩ := kk p e s m args below meth c T'.heap (locs ++ L0) ls C hw hS2 hl T' rfl X'
  exact ⟨t2, st t2 a1, b1⟩
/-- a call of a constructor: plain, and of a nest mate -/
theorem c_init {idx k0 d' k' n' : Nat} {y : MethodName} {mi' : ux_I} {O' : List (Nat × va_E)} (hlk : Cond.methodLink mi.2.2.1 idx y ∈ ux_T ∨ ∃ host, Cond.methodLinkNest mi.2.2.1 idx y host ∈ ux_N) (hin : Cond.instanceMethod y ∈ ux_T) (lk : ux_lk y mi' 0) (hM : cx_M l G y mi' d' k' [.ref k0] O n O' n') (d : decode mi.1 pc = .ok (.invokespecial idx, 3)) (hh : mi'.2.2.2.2 = []) (hret : mi'.2.2.2.1 = none) (hy : y.name = "<init>") (hk : k0 < 204) (hro : ux_ro R mi'.2.1 d' k' u = true) (hc : (st.map fun v => v.category).sum ≤ 8)
    (kk : cx_W l G mi b R Z (pc + 3) L st O' n' (u + k')) : cx_W l G mi b R Z pc L (.ref k0 :: st) O n u := by
  intro p e s m args below meth c H locs ls C hP hS hl
  obtain ⟨r1, r2, r3, r4⟩ := ux_ro_of hro
  obtain ⟨k1, k2, k3, k4, k5, k6⟩ := lk
  have hcw : ux_cw y mi' = .code y mi'.1 mi'.2.1 none := by unfold ux_cw; rw [hh, hret]
  have hts := C.1.2.2.2.2.1
  have hp := cx_pres (av := [.ref k0]) C.1.2.2.2.2.2.2.2.2 C.2.1 hP hS
  have ecv : ([Value.ref k0] : List Value).map (ux_cv G) = [.ref (G.2.1 k0)] := by rw [List.map_cons, ux_cv_ref G hk]; rfl
  rw [ecv] at hp
  rw [List.map_cons, ux_cv_ref G hk]
  rcases hlk with hlk | ⟨host, hlk⟩
  · exact cx_run C hS hl (va_runI (b := G.2.1 k0) (y := y) (bytes := mi'.1) (maxL := mi'.2.1) (As := []) (rest := st.map (ux_cv G)) (rm := ux_rm d' k') ⟨C.1.1, C.1.2.1, C.1.2.2.1, C.1.2.2.2.1, hts⟩ hM
      ⟨⟨rfl, rfl, r1, r2, ux_warm hts k1, by rw [hcw]; exact List.mem_cons_self, by rw [← hcw]; exact hts _ k1, hts _ k2, k3, ux_len k4, hts _ hlk⟩, hy, hts _ hin⟩ ⟨cx_Pc_blind, hp⟩ rfl rfl hl.1 rfl (ux_room hc) d ⟨r3, r4⟩) kk
  · exact cx_run C hS hl (va_runIN (b := G.2.1 k0) (host := host) (y := y) (bytes := mi'.1) (maxL := mi'.2.1) (As := []) (rest := st.map (ux_cv G)) (rm := ux_rm d' k') ⟨C.1.1, C.1.2.1, C.1.2.2.1, C.1.2.2.2.1, hts⟩ hM
      ⟨⟨⟨rfl, rfl, r1, r2, ux_warm hts k1, by rw [hcw]; exact List.mem_cons_self⟩, by rw [← hcw]; exact hts _ k1, hts _ k2, k3, ux_len k4, (C.1.2.2.2.2.2.2.2.2.2.2.1 _ hlk).use rfl⟩, hy, hts _ hin⟩ ⟨cx_Pc_blind, hp⟩ rfl rfl hl.1 rfl (ux_room hc) d ⟨r3, r4⟩) kk
/-- a call of a method of the object itself, without arguments -/
theorem c_callV {idx k0 ci d' k' n' : Nat} {y : MethodName} {mi' : ux_I} {O' : List (Nat × va_E)} {fs : List Value} (ln : ux_lV mi.2.2.1 idx y) (lk : ux_lk y mi' 0) (hM : cx_M l G y mi' d' k' [.ref k0] O n O' n') (d : decode mi.1 pc = .ok (.invokevirtual idx, 3)) (hh : mi'.2.2.2.2 = []) (hk : k0 < 204) (ho : ux_or k0 < n) (hct : ct G O k0 = .inr (ci, fs)) (hcl : (ux_cl[ci]?).map (fun q => q.1) = some y.cls) (hro : ux_ro R mi'.2.1 d' k' u = true) (hc : (st.map fun v => v.category).sum ≤ 8)
    (kk : cx_W l G mi b R Z (pc + 3) L st O' n' (u + k')) : cx_W l G mi b R Z pc L (.ref k0 :: st) O n u := by
  intro p e s m args below meth c H locs ls C hP hS hl
  obtain ⟨r1, r2, r3, r4⟩ := ux_ro_of hro
  obtain ⟨k1, k2, k3, k4, k5, k6⟩ := lk
  have hcw : ux_cw y mi' = .code y mi'.1 mi'.2.1 mi'.2.2.2.1 := by unfold ux_cw; rw [hh]
  have hts := C.1.2.2.2.2.1
  have w8 := C.1.2.2.2.2.2.2.2.2.2.2.2.2.2.2.2.1
  have hp := cx_pres (av := [.ref k0]) C.1.2.2.2.2.2.2.2.2 C.2.1 hP hS
  have ecv : ([Value.ref k0] : List Value).map (ux_cv G) = [.ref (G.2.1 k0)] := by rw [List.map_cons, ux_cv_ref G hk]; rfl
  rw [ecv] at hp
  rw [List.map_cons, ux_cv_ref G hk]
  have hrec : ∃ cell : Cell, H[G.2.1 k0]? = some cell ∧ cell.vm.isStatics = false ∧ s.vm.findClass y.cls = some cell.cls := by
    have hat := hP.2 k0 hk ho
    rw [hct] at hat
    obtain ⟨r, h1, cell, q1, q2, q3, q4⟩ := hat
    rw [h1] at hcl
    have hc2 : r.1 = y.cls := Option.some.inj hcl
    exact ⟨cell, q1, by rw [q3]; rfl, by rw [q2, ← hc2]; exact (w8.1 ci _ h1).2.1⟩
  exact cx_run C hS hl (va_runV (C := y.cls) (b := G.2.1 k0) (y := y) (bytes := mi'.1) (maxL := mi'.2.1) (ret := mi'.2.2.2.1) (As := []) (rest := st.map (ux_cv G)) (rm := ux_rm d' k') ⟨C.1.1, C.1.2.1, C.1.2.2.1, C.1.2.2.2.1, hts⟩ hM
      ⟨⟨rfl, rfl, r1, r2, ux_warm hts k1, by rw [hcw]; exact List.mem_cons_self, by rw [← hcw]; exact hts _ k1, hts _ k2, k3, ux_len k4, hts _ ln.1⟩, hts _ ln.2.1, hts _ ln.2.2⟩ ⟨cx_Pc_blind, hrec, hp⟩ rfl rfl hl.1 rfl (ux_room hc) d ⟨r3, r4⟩) kk
/-- a static call of a nest mate -/
theorem c_callSN {idx nn d' k' n' : Nat} {y : MethodName} {mi' : ux_I} {O' : List (Nat × va_E)} {av rest stk : List Value} (ln : ux_lSN mi.2.2.1 idx y) (lk : ux_lk y mi' nn) (hM : cx_M l G y mi' d' k' av O n O' n') (d : decode mi.1 pc = .ok (.invokestatic idx, 3)) (hh : mi'.2.2.2.2 = []) (hn : av.length = nn) (hro : ux_ro R mi'.2.1 d' k' u = true) (hst : stk = av.reverse ++ rest) (hc : (rest.map fun v => v.category).sum ≤ 8)
    (kk : cx_W l G mi b R Z (pc + 3) L rest O' n' (u + k')) : cx_W l G mi b R Z pc L stk O n u := by
  intro p e s m args below meth c H locs ls C hP hS hl
  obtain ⟨r1, r2, r3, r4⟩ := ux_ro_of hro
  obtain ⟨k1, k2, k3, k4, k5, k6⟩ := lk
  obtain ⟨⟨host, l1⟩, l2⟩ := ln
  have hcw : ux_cw y mi' = .code y mi'.1 mi'.2.1 mi'.2.2.2.1 := by unfold ux_cw; rw [hh]
  have hts := C.1.2.2.2.2.1
  rw [hst]
  refine cx_run C hS hl (va_runSN (y := y) (host := host) (bytes := mi'.1) (maxL := mi'.2.1) (ret := mi'.2.2.2.1) (As := av.map (ux_cv G)) (rest := rest.map (ux_cv G)) (rm := ux_rm d' k') ⟨C.1.1, C.1.2.1, C.1.2.2.1, C.1.2.2.2.1, hts⟩ hM
    ⟨⟨⟨rfl, rfl, r1, r2, ux_warm hts k1, by rw [hcw]; exact List.mem_cons_self⟩, by rw [← hcw]; exact hts _ k1, hts _ k2, k3, ux_len k4, (C.1.2.2.2.2.2.2.2.2.2.2.1 _ l1).use rfl⟩, hts _ l2, trivial⟩ ⟨cx_Pc_blind, cx_pres C.1.2.2.2.2.2.2.2.2 C.2.1 hP hS⟩ rfl (by rw [List.length_map]; exact hn) hl.1 ?_ (ux_room hc) d ⟨r3, r4⟩) kk
  show (av.reverse ++ rest).map (ux_cv G) = _
  rw [List.map_append, List.map_reverse]
def cx_Z (G : ux_G) (k : Nat) (O : List (Nat × va_E)) (n : Nat) : ux_Zt := fun args s below => MQ below (cx_Qc G O n) args s k (6 * k) (ux_A G)
theorem c_return {k : Nat} (d : decode mi.1 pc = .ok (.return_, 1)) (hr : mi.2.2.2.1 = none) (hu : u ≤ k) : cx_W l G mi b R (cx_Z G k O n) pc L [] O n u := by
  intro p e s m args below meth c H locs ls C hP hS hl
  refine W.widen hu (Nat.mul_le_mul_left 6 hu) ?_
  exact W.vret C.1.1 C.1.2.1 (by rw [C.1.2.2.2.2.2.2.1]; exact hr) (fun t ht _ => ⟨⟨rfl, by rw [ht]; exact hP⟩, hS.F ht⟩) (fun q hq => hS.2.2 q hq) d C.1.2.2.2.2.2.1
theorem cx_ent {y : MethodName} {nn d k n' : Nat} {O' : List (Nat × va_E)} {av : List Value} {L' : List (Option Value)} (lk : ux_lk y mi nn) (hh : mi.2.2.2.2 = []) (hb : b = true → y.name = "<init>") (hv : av.all (fun v => v.category == 1) = true) (hn : Nat.ble av.length mi.2.1 = true) (eL : ux_L0 mi.2.1 av = L') (body : cx_W l G mi b (ux_rm d k) (cx_Z G k O' n') 0 L' [] O n 0) : cx_M l G y mi d k av O n O' n' := by
  subst eL
  obtain ⟨k1, k2, k3, k4, k5, k6⟩ := lk
  have hcw : ux_cw y mi = .code y mi.1 mi.2.1 mi.2.2.2.1 := by unfold ux_cw; rw [hh]
  refine Met.ofW (cc := mi.1) (maxL := mi.2.1) (ret := mi.2.2.2.1) (ws' := ux_T) k5 (by rw [hcw]) ?_
  intro p e s m args below meth c s₁ B hml hP0
  obtain ⟨rfl, ⟨hw, hAO⟩, hP⟩ := hP0
  have hts := atoms_spec (ws := ux_cw y mi :: ux_T) B.pre
  obtain ⟨ls, e1, e2⟩ := ux_entry (G := G) (y := y) (m := m) (fun v q => by simpa using List.all_eq_true.mp hv v q) (Nat.le_of_ble_eq_true hn)
  rw [e1]
  have hx0 := hts _ List.mem_cons_self
  have htab : c.exceptionTable.toList = tableOf mi.2.2.2.2 := by
    rw [hh]
    show c.exceptionTable.toList = []
    rw [hcw] at hx0
    obtain ⟨meth9, c9, h1, h2, -, -, -, -, h7, -⟩ := Cond.code_spec B.named hx0
    cases Option.some.inj (h1.symm.trans B.method)
    cases Option.some.inj (h2.symm.trans (Stand.of_body B).code)
    rw [Array.isEmpty_iff.mp h7]
  exact body p e s m _ below meth c s.heap [] ls ⟨⟨B.exec, B.bytes, hml, by rw [k6]; exact findClass_of_methodNamed B.named, fun w z => hts w (List.mem_cons_of_mem _ z), B.notSynchronized, B.returns, htab, hw⟩, hAO, fun q => (name_of_methodNamed B.named B.method).1.trans (hb q)⟩ hP va_S.rf e2
end CXC
