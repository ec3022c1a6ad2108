/-! FIELDS, ARRAYS, CALLS AND ENDS in the uniform world. -/
/-- a link of a field: own class, entry, the field's class by its number, the field's place -/
def ux_fl (own : String) (idx ci j : Nat) : Prop := ∃ (C : String) (T : u_T) (ty : Nat → FieldType), ux_cl[ci]? = some (C, T, ux_nf ci) ∧ j < ux_nf ci ∧ (T j).1 = C ∧ (∀ w ∈ u_ws C T (ux_nf ci), w ∈ ux_T) ∧ (∀ k, k < ux_nf ci → parseFieldDescriptor (T k).2.2.1 = some (ty k)) ∧ (∀ a, a < ux_nf ci → ∀ b, b < ux_nf ci → a ≠ b → (T a).2.1 ≠ (T b).2.1) ∧
  (Cond.fieldLink own idx C (T j).2.1 (T j).2.2.1 ∈ ux_T ∨ ∃ host, Cond.fieldLinkNest own idx C (T j).2.1 (T j).2.2.1 host ∈ ux_N)
/-- .. that isn't final, of a type -/
def ux_pf (own : String) (idx ci j : Nat) (t : FieldType) : Prop := ∃ (C : String) (T : u_T) (ty : Nat → FieldType), ux_cl[ci]? = some (C, T, ux_nf ci) ∧ j < ux_nf ci ∧ (T j).1 = C ∧ (∀ w ∈ u_ws C T (ux_nf ci), w ∈ ux_T) ∧ (∀ k, k < ux_nf ci → parseFieldDescriptor (T k).2.2.1 = some (ty k)) ∧ (∀ a, a < ux_nf ci → ∀ b, b < ux_nf ci → a ≠ b → (T a).2.1 ≠ (T b).2.1) ∧
  (Cond.fieldLink own idx C (T j).2.1 (T j).2.2.1 ∈ ux_T ∨ ∃ host, Cond.fieldLinkNest own idx C (T j).2.1 (T j).2.2.1 host ∈ ux_N) ∧ (T j).2.2.2 = false ∧ parseFieldDescriptor (T j).2.2.1 = some t
/-- a method's own words -/
def ux_lk (y : MethodName) (mi : ux_I) (n : Nat) : Prop := ux_cw y mi ∈ ux_T ∧ Cond.initialized y.cls ∈ ux_T ∧ (y.cls ≠ "java/lang/invoke/MethodHandle" ∧ y.cls ≠ "java/lang/invoke/VarHandle") ∧ (parseMethodDescriptor y.desc).map (fun d => d.parameters.length) = some n ∧ plainName y.cls = true ∧ mi.2.2.1 = y.cls
def ux_lS (own : String) (idx : Nat) (y : MethodName) : Prop := Cond.methodLink own idx y ∈ ux_T ∧ Cond.static y ∈ ux_T
def ux_lSN (own : String) (idx : Nat) (y : MethodName) : Prop := (∃ host, Cond.methodLinkNest own idx y host ∈ ux_N) ∧ Cond.static y ∈ ux_T
def ux_lV (own : String) (idx : Nat) (y : MethodName) : Prop := Cond.methodLink own idx y ∈ ux_T ∧ Cond.instanceMethod y ∈ ux_T ∧ Cond.selects y.cls y y ∈ ux_T
def ux_lVN (own : String) (idx : Nat) (y : MethodName) : Prop := (∃ host, Cond.methodLinkNest own idx y host ∈ ux_N) ∧ Cond.instanceMethod y ∈ ux_T ∧ Cond.selects y.cls y y ∈ ux_T
/-- the room that a call needs -/
def ux_ro (R : Room) (mL d k u : Nat) : Bool := decide (8 + d + 1 ≤ R.frames) && decide (8 + (mL + 11) + (200 + 40 * d) ≤ R.locals) && decide (u + k ≤ R.cells) && decide (6 * u + 6 * k ≤ R.slots)
theorem ux_ro_of {R : Room} {mL d k u : Nat} (h : ux_ro R mL d k u = true) : 8 + d + 1 ≤ R.frames ∧ 8 + (mL + 11) + (200 + 40 * d) ≤ R.locals ∧ u + k ≤ R.cells ∧ 6 * u + 6 * k ≤ R.slots := by
  simp only [ux_ro, Bool.and_eq_true, decide_eq_true_eq] at h
  exact ⟨h.1.1.1, h.1.1.2, h.1.2, h.2⟩
theorem ux_D {G : ux_G} (ho : ux_ok G) (h : ux_H) : va_D (ux_A G) (ux_ws G h) := by
  refine ⟨fun i j p q hi hj e => ?_, fun k q hk => ?_⟩
  · have hi1 : i < 204 := by
      rcases Nat.lt_or_ge i 204 with z | z
      · exact z
      · rw [ux_ws_ge G h (by omega)] at hi; cases hi
    have hj1 : j < 204 := by
      rcases Nat.lt_or_ge j 204 with z | z
      · exact z
      · rw [ux_ws_ge G h (by omega)] at hj; cases hj
    rw [ux_ws_at G h hi1] at hi
    rw [ux_ws_at G h hj1] at hj
    cases hi
    cases hj
    exact ho.1 i j hi1 hj1 e
  · have hk1 : k < 204 := by
      rcases Nat.lt_or_ge k 204 with z | z
      · exact z
      · rw [ux_ws_ge G h (by omega)] at hk; cases hk
    rw [ux_ws_at G h hk1] at hk
    cases hk
    exact ho.2 k hk1
theorem ux_ln_lt (k : Nat) : ux_ln k < 2 ^ 31 := by
  unfold ux_ln
  repeat' split
  all_goals exact Nat.lt_of_lt_of_le (by decide) (Nat.le_refl _)
theorem ux_cl_lt {ci : Nat} {q : vw_C} (h : ux_cl[ci]? = some q) : ci < 7 := by
  rcases Nat.lt_or_ge ci 7 with z | z
  · exact z
  · rw [List.getElem?_eq_none (by show 7 ≤ ci; exact z)] at h; cases h
section UXS
variable {l : Launch} {G : ux_G} {mi : ux_I} {R : Room} {Z : ux_Zt} {pc : Nat} {L : List (Option Value)} {st : List Value} {h : ux_H} {u : Nat}
theorem ux_fs_at {G : ux_G} {h : ux_H} {k j : Nat} (hj : j < ux_ln k) : ((List.range (ux_ln k)).map (ux_fv G h k))[j]? = some (ux_fv G h k j) := by
  simp [List.getElem?_map, List.getElem?_range hj]
theorem g_getv {idx k ci j : Nat} {v : Value} (f : ux_fl mi.2.2.1 idx ci j) (d : decode mi.1 pc = .ok (.getfield idx, 3)) (hk : ux_kd k = ci) (hv : ux_fv G h k j = ux_cv G v) (n : ux_W l G mi R Z (pc + 3) L (v :: st) h u) : ux_W l G mi R Z pc L (.ref k :: st) h u := by
  intro p e s m args below meth c H locs ls C hH hS hl
  obtain ⟨CC, T, ty, hc, hj, hC1, hin, -, -, hlink⟩ := f
  obtain ⟨c1, c2, c3, c4, c5, c6, c7, c8, c9⟩ := C
  obtain ⟨w1, w2, w3, w4, w5, w6, w7, w8, w9, w10⟩ := id c9
  have hci : ci < 7 := ux_cl_lt hc
  have hk204 : k < 204 := ux_kd_lt (by omega)
  have hln : ux_ln k = ux_nf ci := by rw [← hk]; exact ux_ln_nf k hk204 (by omega)
  have hh := n p e s m args below meth c H locs ls ⟨c1, c2, c3, c4, c5, c6, c7, c8, c9⟩ hH hS hl
  have hw : (ux_ws G h)[k]? = some (G.2.1 k, .inr (ci, (List.range (ux_ln k)).map (ux_fv G h k))) := by rw [ux_ws_at G h hk204, ux_en_o (by omega), hk]
  have hcv : ux_cv G (.ref k) = .ref (G.2.1 k) := ux_cv_ref G hk204
  show W p l e R s m args below meth c H locs u (6 * u) (Z args s below) (F0 m pc ls (ux_cv G (.ref k) :: st.map (ux_cv G)))
  rw [hcv]
  rcases hlink with hl1 | ⟨host, hl1⟩
  · exact va_get (D := G.2.2.1) (ci := ci) (v := ux_cv G v) (C := CC) (T := T) (N := ux_nf ci) (ref := CC) c1 c2 c5 hin c4 w8 hH k hw hc j hj (c5 _ hl1) (fun x q => by rw [hC1] at q; exact q) (by rw [← hv]; exact ux_fs_at (by omega)) d hh
  · exact va_getN (D := G.2.2.1) (ci := ci) (v := ux_cv G v) (C := CC) (T := T) (N := ux_nf ci) (ref := CC) (host := host) c1 c2 c5 hin c4 w8 hH k hw hc j hj ((w3 _ hl1).use rfl) (fun x q => by rw [hC1] at q; exact q) (by rw [← hv]; exact ux_fs_at (by omega)) d hh
theorem g_geti {idx k ci j : Nat} (f : ux_fl mi.2.2.1 idx ci j) (d : decode mi.1 pc = .ok (.getfield idx, 3)) (hk : ux_kd k = ci) (hr : ux_rf k j = none) (n : ux_W l G mi R Z (pc + 3) L (.int (xgi h k j) :: st) h u) : ux_W l G mi R Z pc L (.ref k :: st) h u :=
  g_getv f d hk (by unfold ux_fv; rw [hr]; rfl) n
theorem g_getr {idx k ci j q : Nat} (f : ux_fl mi.2.2.1 idx ci j) (d : decode mi.1 pc = .ok (.getfield idx, 3)) (hk : ux_kd k = ci) (hr : ux_rf k j = some q) (hq : Nat.ble q 203 = true) (n : ux_W l G mi R Z (pc + 3) L (.ref q :: st) h u) : ux_W l G mi R Z pc L (.ref k :: st) h u :=
  g_getv f d hk (by unfold ux_fv; rw [hr, ux_cv_ref G (Nat.lt_of_le_of_lt (Nat.le_of_ble_eq_true hq) (by decide))]) n
theorem g_put {idx k ci j : Nat} {t : FieldType} {x : Int32} (f : ux_pf mi.2.2.1 idx ci j t) (d : decode mi.1 pc = .ok (.putfield idx, 3)) (hk : ux_kd k = ci) (hr : ux_rf k j = none) (hn : narrow t (.int x) = .int x) (hf : fits t (.int x) = true) (n : ux_W l G mi R Z (pc + 3) L st (xsi h k j x) u) : ux_W l G mi R Z pc L (.int x :: .ref k :: st) h u := by
  intro p e s m args below meth c H locs ls C hH hS hl
  obtain ⟨CC, T, ty, hc, hj, hC1, hin, hty, hnm, hlink, hfin, hpt⟩ := f
  obtain ⟨c1, c2, c3, c4, c5, c6, c7, c8, c9⟩ := C
  obtain ⟨w1, w2, w3, w4, w5, w6, w7, w8, w9, w10⟩ := id c9
  have hci : ci < 7 := ux_cl_lt hc
  have hk204 : k < 204 := ux_kd_lt (by omega)
  have hln : ux_ln k = ux_nf ci := by rw [← hk]; exact ux_ln_nf k hk204 (by omega)
  have hw : (ux_ws G h)[k]? = some (G.2.1 k, .inr (ci, (List.range (ux_ln k)).map (ux_fv G h k))) := by rw [ux_ws_at G h hk204, ux_en_o (by omega), hk]
  have hset : (ux_ws G h).set k (G.2.1 k, .inr (ci, ((List.range (ux_ln k)).map (ux_fv G h k)).set j (.int x))) = ux_ws G (xsi h k j x) := by
    rw [← hk]; exact ux_set_o (by omega) (by omega) hr
  show W p l e R s m args below meth c H locs u (6 * u) (Z args s below) (F0 m pc ls (.int x :: ux_cv G (.ref k) :: st.map (ux_cv G)))
  rw [ux_cv_ref G hk204]
  have kk : ∀ (H1 : Heap) (locs1 : List Loc), va_P G.2.2.1 ux_cl ((ux_ws G h).set k (G.2.1 k, .inr (ci, ((List.range (ux_ln k)).map (ux_fv G h k)).set j (.int x)))) H1 → va_D (ux_A G) ((ux_ws G h).set k (G.2.1 k, .inr (ci, ((List.range (ux_ln k)).map (ux_fv G h k)).set j (.int x)))) → va_S (ux_A G) s.heap H1 locs1 → W p l e R s m args below meth c H1 locs1 u (6 * u) (Z args s below) (F0 m (pc + 3) ls (st.map (ux_cv G))) := by
    intro H1 locs1 hP1 _ hS1
    rw [hset] at hP1
    exact n p e s m args below meth c H1 locs1 ls ⟨c1, c2, c3, c4, c5, c6, c7, c8, c9⟩ hP1 hS1 hl
  rcases hlink with hl1 | ⟨host, hl1⟩
  · exact va_put (D := G.2.2.1) (ci := ci) (v := .int x) (ty := t) (C := CC) (T := T) (N := ux_nf ci) (ref := CC) c1 c2 c5 hin ty hty hnm c4 w8 hH (ux_D w1 h) hS k hw hc j hj (c5 _ hl1) (fun x q => by rw [hC1] at q; exact q) hfin hpt hn hf (by simp; omega) d kk
  · exact va_putN (D := G.2.2.1) (ci := ci) (v := .int x) (ty := t) (C := CC) (T := T) (N := ux_nf ci) (ref := CC) (host := host) c1 c2 c5 hin ty hty hnm c4 w8 hH (ux_D w1 h) hS k hw hc j hj ((w3 _ hl1).use rfl) (fun x q => by rw [hC1] at q; exact q) hfin hpt hn hf (by simp; omega) d kk
theorem g_puti {idx k ci j : Nat} {x : Int32} (f : ux_pf mi.2.2.1 idx ci j .int) (d : decode mi.1 pc = .ok (.putfield idx, 3)) (hk : ux_kd k = ci) (hr : ux_rf k j = none) (n : ux_W l G mi R Z (pc + 3) L st (xsi h k j x) u) : ux_W l G mi R Z pc L (.int x :: .ref k :: st) h u :=
  g_put f d hk hr rfl rfl n
theorem g_alen {k : Nat} {v : Int32} (d : decode mi.1 pc = .ok (.arraylength, 1)) (hk : ux_kd k = 10 ∨ ux_kd k = 11 ∨ ux_kd k = 14) (hv : nI (ux_ln k) = v) (n : ux_W l G mi R Z (pc + 1) L (.int v :: st) h u) : ux_W l G mi R Z pc L (.ref k :: st) h u := by
  intro p e s m args below meth c H locs ls C hH hS hl
  have w8 := C.2.2.2.2.2.2.2.2.2.2.2.2.2.2.2.1
  have hk204 : k < 204 := ux_kd_lt (by omega)
  show W p l e R s m args below meth c H locs u (6 * u) (Z args s below) (F0 m pc ls (ux_cv G (.ref k) :: st.map (ux_cv G)))
  rw [ux_cv_ref G hk204]
  have hh := n p e s m args below meth c H locs ls C hH hS hl
  rcases hk with hk | hk | hk
  · exact va_alen (x := (ux_ln k, .inl (xgi h k))) C.1 C.2.1 w8 hH k 0 (by rw [ux_ws_at G h hk204, ux_en_i hk]) rfl hv d hh
  · exact va_alen (x := (ux_ln k, .inl (xgi h k))) C.1 C.2.1 w8 hH k 1 (by rw [ux_ws_at G h hk204, ux_en_c hk]) rfl hv d hh
  · exact va_alen (x := (ux_ln k, .inr (.inr (.inr (.inr (fun j => (ux_rf k j).map G.2.1)))))) C.1 C.2.1 w8 hH k 4 (by rw [ux_ws_at G h hk204, ux_en_q hk]) rfl hv d hh
theorem g_iald {k j : Nat} {i : Int32} (d : decode mi.1 pc = .ok (.iaload, 1)) (hk : ux_kd k = 10) (hj : j < ux_ln k) (hi : i = nI j) (n : ux_W l G mi R Z (pc + 1) L (.int (xgi h k j) :: st) h u) : ux_W l G mi R Z pc L (.int i :: .ref k :: st) h u := by
  intro p e s m args below meth c H locs ls C hH hS hl
  have w8 := C.2.2.2.2.2.2.2.2.2.2.2.2.2.2.2.1
  have hk204 : k < 204 := ux_kd_lt (by omega)
  show W p l e R s m args below meth c H locs u (6 * u) (Z args s below) (F0 m pc ls (.int i :: ux_cv G (.ref k) :: st.map (ux_cv G)))
  rw [ux_cv_ref G hk204]
  refine va_iald C.1 C.2.1 w8 hH k 0 (by rw [ux_ws_at G h hk204, ux_en_i hk]) rfl (by rw [hi]; exact vp_in_nI hj (ux_ln_lt k)) d ?_
  rw [hi, nI_clamp (Nat.lt_trans hj (ux_ln_lt k))]
  exact n p e s m args below meth c H locs ls C hH hS hl
theorem g_cald {k j : Nat} {i : Int32} (d : decode mi.1 pc = .ok (.caload, 1)) (hk : ux_kd k = 11) (hj : j < ux_ln k) (hi : i = nI j) (n : ux_W l G mi R Z (pc + 1) L (.int (xgi h k j) :: st) h u) : ux_W l G mi R Z pc L (.int i :: .ref k :: st) h u := by
  intro p e s m args below meth c H locs ls C hH hS hl
  have w8 := C.2.2.2.2.2.2.2.2.2.2.2.2.2.2.2.1
  have hk204 : k < 204 := ux_kd_lt (by omega)
  show W p l e R s m args below meth c H locs u (6 * u) (Z args s below) (F0 m pc ls (.int i :: ux_cv G (.ref k) :: st.map (ux_cv G)))
  rw [ux_cv_ref G hk204]
  refine va_cald C.1 C.2.1 w8 hH k 1 (by rw [ux_ws_at G h hk204, ux_en_c hk]) rfl (by rw [hi]; exact vp_in_nI hj (ux_ln_lt k)) d ?_
  rw [hi, nI_clamp (Nat.lt_trans hj (ux_ln_lt k))]
  exact n p e s m args below meth c H locs ls C hH hS hl
theorem g_lald {k j : Nat} {i : Int32} (d : decode mi.1 pc = .ok (.laload, 1)) (hk : ux_kd k = 12) (hj : j < ux_ln k) (hi : i = nI j) (n : ux_W l G mi R Z (pc + 1) L (.long (xgl h k j) :: st) h u) : ux_W l G mi R Z pc L (.int i :: .ref k :: st) h u := by
  intro p e s m args below meth c H locs ls C hH hS hl
  have w8 := C.2.2.2.2.2.2.2.2.2.2.2.2.2.2.2.1
  have hk204 : k < 204 := ux_kd_lt (by omega)
  show W p l e R s m args below meth c H locs u (6 * u) (Z args s below) (F0 m pc ls (.int i :: ux_cv G (.ref k) :: st.map (ux_cv G)))
  rw [ux_cv_ref G hk204]
  refine va_lald C.1 C.2.1 w8 hH k 2 (by rw [ux_ws_at G h hk204, ux_en_l hk]) rfl (by rw [hi]; exact vp_in_nI hj (ux_ln_lt k)) d ?_
  rw [hi, nI_clamp (Nat.lt_trans hj (ux_ln_lt k))]
  exact n p e s m args below meth c H locs ls C hH hS hl
theorem g_dald {k j : Nat} {i : Int32} (d : decode mi.1 pc = .ok (.daload, 1)) (hk : ux_kd k = 13) (hj : j < ux_ln k) (hi : i = nI j) (n : ux_W l G mi R Z (pc + 1) L (.double (xgd h k j) :: st) h u) : ux_W l G mi R Z pc L (.int i :: .ref k :: st) h u := by
  intro p e s m args below meth c H locs ls C hH hS hl
  have w8 := C.2.2.2.2.2.2.2.2.2.2.2.2.2.2.2.1
  have hk204 : k < 204 := ux_kd_lt (by omega)
  show W p l e R s m args below meth c H locs u (6 * u) (Z args s below) (F0 m pc ls (.int i :: ux_cv G (.ref k) :: st.map (ux_cv G)))
  rw [ux_cv_ref G hk204]
  refine va_dald C.1 C.2.1 w8 hH k 3 (by rw [ux_ws_at G h hk204, ux_en_d hk]) rfl (by rw [hi]; exact vp_in_nI hj (ux_ln_lt k)) d ?_
  rw [hi, nI_clamp (Nat.lt_trans hj (ux_ln_lt k))]
  exact n p e s m args below meth c H locs ls C hH hS hl
theorem g_aald {k j q : Nat} {i : Int32} (d : decode mi.1 pc = .ok (.aaload, 1)) (hk : ux_kd k = 14) (hj : j < ux_ln k) (hi : i = nI j) (hr : ux_rf k j = some q) (hq : Nat.ble q 203 = true) (n : ux_W l G mi R Z (pc + 1) L (.ref q :: st) h u) : ux_W l G mi R Z pc L (.int i :: .ref k :: st) h u := by
  intro p e s m args below meth c H locs ls C hH hS hl
  have w8 := C.2.2.2.2.2.2.2.2.2.2.2.2.2.2.2.1
  have hk204 : k < 204 := ux_kd_lt (by omega)
  show W p l e R s m args below meth c H locs u (6 * u) (Z args s below) (F0 m pc ls (.int i :: ux_cv G (.ref k) :: st.map (ux_cv G)))
  rw [ux_cv_ref G hk204]
  refine va_aldq C.1 C.2.1 w8 hH k 4 (by rw [ux_ws_at G h hk204, ux_en_q hk]) rfl (by rw [hi]; exact vp_in_nI hj (ux_ln_lt k)) d ?_
  rw [hi, nI_clamp (Nat.lt_trans hj (ux_ln_lt k)), hr]
  have hh := n p e s m args below meth c H locs ls C hH hS hl
  have hcv := ux_cv_ref G (k := q) (Nat.lt_of_le_of_lt (Nat.le_of_ble_eq_true hq) (by decide))
  show W p l e R s m args below meth c H locs u (6 * u) (Z args s below) (F0 m (pc + 1) ls (.ref (G.2.1 q) :: st.map (ux_cv G)))
  rw [← hcv]
  exact hh
theorem g_iast {k j : Nat} {i x : Int32} (d : decode mi.1 pc = .ok (.iastore, 1)) (hk : ux_kd k = 10) (hj : j < ux_ln k) (hi : i = nI j) (n : ux_W l G mi R Z (pc + 1) L st (xsi h k j x) u) : ux_W l G mi R Z pc L (.int x :: .int i :: .ref k :: st) h u := by
  intro p e s m args below meth c H locs ls C hH hS hl
  have w1 := C.2.2.2.2.2.2.2.2.1
  have w8 := C.2.2.2.2.2.2.2.2.2.2.2.2.2.2.2.1
  have hk204 : k < 204 := ux_kd_lt (by omega)
  show W p l e R s m args below meth c H locs u (6 * u) (Z args s below) (F0 m pc ls (.int x :: .int i :: ux_cv G (.ref k) :: st.map (ux_cv G)))
  rw [ux_cv_ref G hk204]
  refine va_iast C.1 C.2.1 w8 hH (ux_D w1 h) hS k 0 (by rw [ux_ws_at G h hk204, ux_en_i hk]) rfl (by rw [hi]; exact vp_in_nI hj (ux_ln_lt k)) d (fun H1 locs1 hP1 _ hS1 => ?_)
  rw [hi, nI_clamp (Nat.lt_trans hj (ux_ln_lt k)), ux_set_i hk] at hP1
  exact n p e s m args below meth c H1 locs1 ls C hP1 hS1 hl
theorem g_cast {k j : Nat} {i x : Int32} (d : decode mi.1 pc = .ok (.castore, 1)) (hk : ux_kd k = 11) (hj : j < ux_ln k) (hi : i = nI j) (hx : vp_nar .char x = x) (n : ux_W l G mi R Z (pc + 1) L st (xsi h k j x) u) : ux_W l G mi R Z pc L (.int x :: .int i :: .ref k :: st) h u := by
  intro p e s m args below meth c H locs ls C hH hS hl
  have w1 := C.2.2.2.2.2.2.2.2.1
  have w8 := C.2.2.2.2.2.2.2.2.2.2.2.2.2.2.2.1
  have hk204 : k < 204 := ux_kd_lt (by omega)
  show W p l e R s m args below meth c H locs u (6 * u) (Z args s below) (F0 m pc ls (.int x :: .int i :: ux_cv G (.ref k) :: st.map (ux_cv G)))
  rw [ux_cv_ref G hk204]
  refine va_cast C.1 C.2.1 w8 hH (ux_D w1 h) hS k 1 (by rw [ux_ws_at G h hk204, ux_en_c hk]) rfl (by rw [hi]; exact vp_in_nI hj (ux_ln_lt k)) d (fun H1 locs1 hP1 _ hS1 => ?_)
  rw [hi, nI_clamp (Nat.lt_trans hj (ux_ln_lt k)), hx, ux_set_c hk] at hP1
  exact n p e s m args below meth c H1 locs1 ls C hP1 hS1 hl
theorem g_last {k j : Nat} {i : Int32} {x : Int64} (d : decode mi.1 pc = .ok (.lastore, 1)) (hk : ux_kd k = 12) (hj : j < ux_ln k) (hi : i = nI j) (n : ux_W l G mi R Z (pc + 1) L st (xsv h k j (.long x)) u) : ux_W l G mi R Z pc L (.long x :: .int i :: .ref k :: st) h u := by
  intro p e s m args below meth c H locs ls C hH hS hl
  have w1 := C.2.2.2.2.2.2.2.2.1
  have w8 := C.2.2.2.2.2.2.2.2.2.2.2.2.2.2.2.1
  have hk204 : k < 204 := ux_kd_lt (by omega)
  show W p l e R s m args below meth c H locs u (6 * u) (Z args s below) (F0 m pc ls (.long x :: .int i :: ux_cv G (.ref k) :: st.map (ux_cv G)))
  rw [ux_cv_ref G hk204]
  refine va_last C.1 C.2.1 w8 hH (ux_D w1 h) hS k 2 (by rw [ux_ws_at G h hk204, ux_en_l hk]) rfl (by rw [hi]; exact vp_in_nI hj (ux_ln_lt k)) d (fun H1 locs1 hP1 _ hS1 => ?_)
  rw [hi, nI_clamp (Nat.lt_trans hj (ux_ln_lt k)), ux_set_l hk] at hP1
  exact n p e s m args below meth c H1 locs1 ls C hP1 hS1 hl
theorem g_dast {k j : Nat} {i : Int32} {x : UInt64} (d : decode mi.1 pc = .ok (.dastore, 1)) (hk : ux_kd k = 13) (hj : j < ux_ln k) (hi : i = nI j) (n : ux_W l G mi R Z (pc + 1) L st (xsv h k j (.double x)) u) : ux_W l G mi R Z pc L (.double x :: .int i :: .ref k :: st) h u := by
  intro p e s m args below meth c H locs ls C hH hS hl
  have w1 := C.2.2.2.2.2.2.2.2.1
  have w8 := C.2.2.2.2.2.2.2.2.2.2.2.2.2.2.2.1
  have hk204 : k < 204 := ux_kd_lt (by omega)
  show W p l e R s m args below meth c H locs u (6 * u) (Z args s below) (F0 m pc ls (.double x :: .int i :: ux_cv G (.ref k) :: st.map (ux_cv G)))
  rw [ux_cv_ref G hk204]
  refine va_dast C.1 C.2.1 w8 hH (ux_D w1 h) hS k 3 (by rw [ux_ws_at G h hk204, ux_en_d hk]) rfl (by rw [hi]; exact vp_in_nI hj (ux_ln_lt k)) d (fun H1 locs1 hP1 _ hS1 => ?_)
  rw [hi, nI_clamp (Nat.lt_trans hj (ux_ln_lt k)), ux_set_d hk] at hP1
  exact n p e s m args below meth c H1 locs1 ls C hP1 hS1 hl
end UXS
