/-! CONVENIENT FORMS of the rows: explicit places, contracts of one answer, handlers, Math. -/
section UXF
variable {l : Launch} {G : ux_G} {mi : ux_I} {R : Room} {Z : ux_Zt} {pc : Nat} {L : List (Option Value)} {st : List Value} {h : ux_H} {u : Nat}
theorem g_L {L' : List (Option Value)} (e : L = L') (n : ux_W l G mi R Z pc L' st h u) : ux_W l G mi R Z pc L st h u := e ▸ n
theorem g_st {st' : List Value} (e : st = st') (n : ux_W l G mi R Z pc L st' h u) : ux_W l G mi R Z pc L st h u := e ▸ n
theorem g_u {u' : Nat} (e : u = u') (n : ux_W l G mi R Z pc L st h u') : ux_W l G mi R Z pc L st h u := e ▸ n
theorem g_h {h' : ux_H} (e : h = h') (n : ux_W l G mi R Z pc L st h' u) : ux_W l G mi R Z pc L st h u := e ▸ n
/-- the top of the stack gets a name or another form -/
theorem g_top {x y : Int32} (e : x = y) (n : ux_W l G mi R Z pc L (.int y :: st) h u) : ux_W l G mi R Z pc L (.int x :: st) h u := e ▸ n
theorem g_topn {x : Int32} (n : ∀ y : Int32, y = x → ux_W l G mi R Z pc L (.int y :: st) h u) : ux_W l G mi R Z pc L (.int x :: st) h u := n x rfl
/-- a list of locals without longs, by evaluation -/
def ux_ob : List (Option Value) → Bool
  | [] => true
  | none :: r => ux_ob r
  | some v :: r => (v.category == 1) && ux_ob r
theorem ux_ob_one : ∀ {L : List (Option Value)}, ux_ob L = true → ux_one L := by
  intro L
  induction L with
  | nil => exact fun _ => ux_one_nil
  | cons a r ih =>
    cases a with
    | none => exact fun q => ux_one_n (ih q)
    | some v =>
      intro q
      simp only [ux_ob, Bool.and_eq_true, beq_iff_eq] at q
      exact ux_one_c q.1 (ih q.2)
theorem s_i {k : Fin 4} {i : Nat} {x : Int32} {L' : List (Option Value)} (d : decode mi.1 pc = .ok (.istore_n k, 1)) (hi : (k : Nat) = i) (h1 : ux_ob L = true) (hk : Nat.ble (i + 1) mi.2.1 = true) (e : L.set i (some (.int x)) = L') (n : ux_W l G mi R Z (pc + 1) L' st h u) : ux_W l G mi R Z pc L (.int x :: st) h u := by
  subst hi; subst e
  exact g_istore_n d (ux_ob_one h1) (Nat.le_of_ble_eq_true hk) n
theorem s_iw {i : Nat} {x : Int32} {L' : List (Option Value)} (d : decode mi.1 pc = .ok (.istore i, 2)) (h1 : ux_ob L = true) (hk : Nat.ble (i + 1) mi.2.1 = true) (e : L.set i (some (.int x)) = L') (n : ux_W l G mi R Z (pc + 2) L' st h u) : ux_W l G mi R Z pc L (.int x :: st) h u := by
  subst e
  exact g_istore d (ux_ob_one h1) (Nat.le_of_ble_eq_true hk) n
theorem s_a {k : Fin 4} {i : Nat} {x : Nat} {L' : List (Option Value)} (d : decode mi.1 pc = .ok (.astore_n k, 1)) (hi : (k : Nat) = i) (h1 : ux_ob L = true) (hk : Nat.ble (i + 1) mi.2.1 = true) (e : L.set i (some (.ref x)) = L') (n : ux_W l G mi R Z (pc + 1) L' st h u) : ux_W l G mi R Z pc L (.ref x :: st) h u := by
  subst hi; subst e
  exact g_astore_n d (ux_ob_one h1) (Nat.le_of_ble_eq_true hk) n
theorem s_aw {i : Nat} {x : Nat} {L' : List (Option Value)} (d : decode mi.1 pc = .ok (.astore i, 2)) (h1 : ux_ob L = true) (hk : Nat.ble (i + 1) mi.2.1 = true) (e : L.set i (some (.ref x)) = L') (n : ux_W l G mi R Z (pc + 2) L' st h u) : ux_W l G mi R Z pc L (.ref x :: st) h u := by
  subst e
  exact g_astore d (ux_ob_one h1) (Nat.le_of_ble_eq_true hk) n
theorem s_inc {i : Nat} {z : Int} {x v : Int32} {L' : List (Option Value)} (d : decode mi.1 pc = .ok (.iinc i z, 3)) (hL : L[i]? = some (some (.int x))) (hv : x + Int32.ofInt z = v) (h1 : ux_ob L = true) (hk : Nat.ble (i + 1) mi.2.1 = true) (e : L.set i (some (.int v)) = L') (n : ux_W l G mi R Z (pc + 3) L' st h u) : ux_W l G mi R Z pc L st h u := by
  subst e
  exact g_iinc d hL hv (ux_ob_one h1) (Nat.le_of_ble_eq_true hk) n
theorem ux_ent {y : MethodName} {n d k : Nat} {av : List Value} {Q : Option Value → ux_H → Prop} {X : String → ux_H → Prop} {L' : List (Option Value)} (lk : ux_lk y mi n) (hh : mi.2.2.2.2 = []) (hv : av.all (fun v => v.category == 1) = true) (hn : Nat.ble av.length mi.2.1 = true) (e : ux_L0 mi.2.1 av = L') (body : ux_W l G mi (ux_rm d k) (ux_Z G k Q X) 0 L' [] h 0) : ux_M l G y mi d k av h Q X := by
  subst e
  exact ux_enter lk hh (fun v q => by simpa using List.all_eq_true.mp hv v q) (Nat.le_of_ble_eq_true hn) body
theorem ux_entX {y : MethodName} {n d k : Nat} {av : List Value} {Q : Option Value → ux_H → Prop} {X : String → ux_H → Prop} {L' : List (Option Value)} (lk : ux_lk y mi n) (hh : mi.2.2.2.2 ≠ []) (hv : av.all (fun v => v.category == 1) = true) (hn : Nat.ble av.length mi.2.1 = true) (e : ux_L0 mi.2.1 av = L') (body : ux_W l G mi (ux_rm d k) (ux_Z G k Q X) 0 L' [] h 0) : ux_M l G y mi d k av h Q X := by
  subst e
  exact ux_enterX lk hh (fun v q => by simpa using List.all_eq_true.mp hv v q) (Nat.le_of_ble_eq_true hn) body
/-- a contract of one answer and one new world, without throws -/
def ux_F (l : Launch) (G : ux_G) (y : MethodName) (mi : ux_I) (d k : Nat) (av : List Value) (h : ux_H) (r : Option Value) (h2 : ux_H) : Prop := ux_M l G y mi d k av h (fun v h' => v = r ∧ h' = h2) (fun _ _ => False)
section UXF1
variable {idx n ci b : Nat} {y : MethodName} {mi' : ux_I} {d' k' u' : Nat} {av rest stk : List Value} {Q' : Option Value → ux_H → Prop} {X' : String → ux_H → Prop} {r : Option Value} {h2 : ux_H}
theorem f_SN (ln : ux_lSN mi.2.2.1 idx y) (lk : ux_lk y mi' n) (hM : ux_F l G y mi' d' k' av h r h2) (d : decode mi.1 pc = .ok (.invokestatic idx, 3)) (hst : stk = av.reverse ++ rest) (hn : av.length = n) (hh : mi'.2.2.2.2 = []) (hro : ux_ro R mi'.2.1 d' k' u = true) (hc : Nat.ble ((rest.map fun v => v.category).sum) 8 = true) (hu : u + k' = u')
    (kk : ux_W l G mi R Z (pc + 3) L (r.toList ++ rest) h2 u') : ux_W l G mi R Z pc L stk h u := by
  subst hu
  refine g_callSN ln lk hM d hh hn hro hst (Nat.le_of_ble_eq_true hc) (fun v h' q => ?_)
  obtain ⟨rfl, rfl⟩ := q
  exact kk
theorem f_VN (ln : ux_lVN mi.2.2.1 idx y) (lk : ux_lk y mi' n) (hM : ux_F l G y mi' d' k' (.ref b :: av) h r h2) (d : decode mi.1 pc = .ok (.invokevirtual idx, 3)) (hst : stk = av.reverse ++ .ref b :: rest) (hn : av.length = n) (hh : mi'.2.2.2.2 = []) (hb : ux_kd b = ci) (hcl : (ux_cl[ci]?).map (fun q => q.1) = some y.cls) (hro : ux_ro R mi'.2.1 d' k' u = true) (hc : Nat.ble ((rest.map fun v => v.category).sum) 8 = true) (hu : u + k' = u')
    (kk : ux_W l G mi R Z (pc + 3) L (r.toList ++ rest) h2 u') : ux_W l G mi R Z pc L stk h u := by
  subst hu
  refine g_callVN ln lk hM d hh hn hb hcl hro hst (Nat.le_of_ble_eq_true hc) (fun v h' q => ?_)
  obtain ⟨rfl, rfl⟩ := q
  exact kk
theorem f_S (ln : ux_lS mi.2.2.1 idx y) (lk : ux_lk y mi' n) (hM : ux_F l G y mi' d' k' av h r h2) (d : decode mi.1 pc = .ok (.invokestatic idx, 3)) (hst : stk = av.reverse ++ rest) (hn : av.length = n) (hh : mi'.2.2.2.2 = []) (hro : ux_ro R mi'.2.1 d' k' u = true) (hc : Nat.ble ((rest.map fun v => v.category).sum) 8 = true) (hu : u + k' = u')
    (kk : ux_W l G mi R Z (pc + 3) L (r.toList ++ rest) h2 u') : ux_W l G mi R Z pc L stk h u := by
  subst hu
  refine g_callS ln lk hM d hh hn hro hst (Nat.le_of_ble_eq_true hc) (fun v h' q => ?_) (fun _ _ q => q.elim)
  obtain ⟨rfl, rfl⟩ := q
  exact kk
theorem f_V (ln : ux_lV mi.2.2.1 idx y) (lk : ux_lk y mi' n) (hM : ux_F l G y mi' d' k' (.ref b :: av) h r h2) (d : decode mi.1 pc = .ok (.invokevirtual idx, 3)) (hst : stk = av.reverse ++ .ref b :: rest) (hn : av.length = n) (hh : mi'.2.2.2.2 = []) (hb : ux_kd b = ci) (hcl : (ux_cl[ci]?).map (fun q => q.1) = some y.cls) (hro : ux_ro R mi'.2.1 d' k' u = true) (hc : Nat.ble ((rest.map fun v => v.category).sum) 8 = true) (hu : u + k' = u')
    (kk : ux_W l G mi R Z (pc + 3) L (r.toList ++ rest) h2 u') : ux_W l G mi R Z pc L stk h u := by
  subst hu
  refine g_callV ln lk hM d hh hn hb hcl hro hst (Nat.le_of_ble_eq_true hc) (fun v h' q => ?_) (fun _ _ q => q.elim)
  obtain ⟨rfl, rfl⟩ := q
  exact kk
/-- calls with any post -/
theorem q_SN (ln : ux_lSN mi.2.2.1 idx y) (lk : ux_lk y mi' n) (hM : ux_M l G y mi' d' k' av h Q' (fun _ _ => False)) (d : decode mi.1 pc = .ok (.invokestatic idx, 3)) (hst : stk = av.reverse ++ rest) (hn : av.length = n) (hh : mi'.2.2.2.2 = []) (hro : ux_ro R mi'.2.1 d' k' u = true) (hc : Nat.ble ((rest.map fun v => v.category).sum) 8 = true) (hu : u + k' = u')
    (kk : ∀ v h', Q' v h' → ux_W l G mi R Z (pc + 3) L (v.toList ++ rest) h' u') : ux_W l G mi R Z pc L stk h u := by
  subst hu
  exact g_callSN ln lk hM d hh hn hro hst (Nat.le_of_ble_eq_true hc) kk
theorem q_VN (ln : ux_lVN mi.2.2.1 idx y) (lk : ux_lk y mi' n) (hM : ux_M l G y mi' d' k' (.ref b :: av) h Q' (fun _ _ => False)) (d : decode mi.1 pc = .ok (.invokevirtual idx, 3)) (hst : stk = av.reverse ++ .ref b :: rest) (hn : av.length = n) (hh : mi'.2.2.2.2 = []) (hb : ux_kd b = ci) (hcl : (ux_cl[ci]?).map (fun q => q.1) = some y.cls) (hro : ux_ro R mi'.2.1 d' k' u = true) (hc : Nat.ble ((rest.map fun v => v.category).sum) 8 = true) (hu : u + k' = u')
    (kk : ∀ v h', Q' v h' → ux_W l G mi R Z (pc + 3) L (v.toList ++ rest) h' u') : ux_W l G mi R Z pc L stk h u := by
  subst hu
  exact g_callVN ln lk hM d hh hn hb hcl hro hst (Nat.le_of_ble_eq_true hc) kk
theorem q_S (ln : ux_lS mi.2.2.1 idx y) (lk : ux_lk y mi' n) (hM : ux_M l G y mi' d' k' av h Q' X') (d : decode mi.1 pc = .ok (.invokestatic idx, 3)) (hst : stk = av.reverse ++ rest) (hn : av.length = n) (hh : mi'.2.2.2.2 = []) (hro : ux_ro R mi'.2.1 d' k' u = true) (hc : Nat.ble ((rest.map fun v => v.category).sum) 8 = true) (hu : u + k' = u')
    (kk : ∀ v h', Q' v h' → ux_W l G mi R Z (pc + 3) L (v.toList ++ rest) h' u') (kx : ∀ E h', X' E h' → ux_V l G mi R Z pc L h' u' E) : ux_W l G mi R Z pc L stk h u := by
  subst hu
  exact g_callS ln lk hM d hh hn hro hst (Nat.le_of_ble_eq_true hc) kk kx
theorem q_V (ln : ux_lV mi.2.2.1 idx y) (lk : ux_lk y mi' n) (hM : ux_M l G y mi' d' k' (.ref b :: av) h Q' X') (d : decode mi.1 pc = .ok (.invokevirtual idx, 3)) (hst : stk = av.reverse ++ .ref b :: rest) (hn : av.length = n) (hh : mi'.2.2.2.2 = []) (hb : ux_kd b = ci) (hcl : (ux_cl[ci]?).map (fun q => q.1) = some y.cls) (hro : ux_ro R mi'.2.1 d' k' u = true) (hc : Nat.ble ((rest.map fun v => v.category).sum) 8 = true) (hu : u + k' = u')
    (kk : ∀ v h', Q' v h' → ux_W l G mi R Z (pc + 3) L (v.toList ++ rest) h' u') (kx : ∀ E h', X' E h' → ux_V l G mi R Z pc L h' u' E) : ux_W l G mi R Z pc L stk h u := by
  subst hu
  exact g_callV ln lk hM d hh hn hb hcl hro hst (Nat.le_of_ble_eq_true hc) kk kx
end UXF1
/-- an exception is caught here: the rows ahead don't take it -/
theorem g_catch {E name : String} {pre suf : List (Nat × Nat × Nat × Nat)} {x : Nat × Nat × Nat × Nat} (hh : mi.2.2.2.2 = pre ++ x :: suf) (hE : E ∈ ux_xs) (hcast : Cond.castable E name ∈ ux_N)
    (hpass : ∀ z ∈ pre, z.2.2.2 ≠ 0 ∧ ∃ nm : String, Cond.classLink mi.2.2.1 z.2.2.2 nm ∈ ux_T ∧ nm ∈ ux_xs ∧ E ≠ nm) (hx : covers ⟨x.1, x.2.1, x.2.2.1, x.2.2.2⟩ pc = true) (h0 : x.2.2.2 ≠ 0) (hlink : Cond.classLink mi.2.2.1 x.2.2.2 name ∈ ux_T)
    (kk : ∀ q : Nat, ux_W l G mi R Z x.2.2.1 L [.ref (1000 + q)] h u) : ux_V l G mi R Z pc L h u E := by
  intro p e s m args below meth c H locs ls ce q rest C hH hS hl hce hcv hcl
  obtain ⟨c1, c2, c3, c4, c5, c6, c7, c8, w1, w2, w3, w4, w5, w6, w7, w8⟩ := id C
  refine vx_catch (own := mi.2.2.1) (name := name) (E := E) (ce := ce) c4 (tableOf pre) ⟨x.1, x.2.1, x.2.2.1, x.2.2.2⟩ (tableOf suf) (by rw [c8, hh]; simp [tableOf]) ?_ hx h0 (c5 _ hlink) ((w3 _ hcast).use rfl) hce hcv hcl ?_
  · intro z hz
    obtain ⟨z0, hz0, rfl⟩ := List.mem_map.mp hz
    obtain ⟨p1, nm, p2, p3, p4⟩ := hpass z0 hz0
    exact Or.inr ⟨p1, nm, c5 _ p2, w7 E hE nm p3 p4⟩
  · have := kk q p e s m args below meth c H locs ls C hH hS hl
    rw [List.map_cons, ux_cv_raw] at this
    exact this
theorem g_min {idx : Nat} {x y : Int32} (hlink : Cond.methodLink mi.2.2.1 idx Lib.Math.min.name ∈ ux_T) (hs : Cond.static Lib.Math.min.name ∈ ux_T) (hi : Cond.initialized "java/lang/Math" ∈ ux_T) (hcd : Cond.code Lib.Math.min.name Lib.Math.min.code 2 (some .int) ∈ ux_T) (d : decode mi.1 pc = .ok (.invokestatic idx, 3)) (hro : ux_ro R 2 0 0 u = true) (hc : Nat.ble ((st.map fun v => v.category).sum) 8 = true) (n : ux_W l G mi R Z (pc + 3) L (.int (if y < x then y else x) :: st) h u) : ux_W l G mi R Z pc L (.int y :: .int x :: st) h u := by
  intro p e s m args below meth c H locs ls C hH hS hl
  obtain ⟨r1, r2, r3, r4⟩ := ux_ro_of hro
  have hts := C.2.2.2.2.1
  have hc2 := Nat.le_of_ble_eq_true hc
  have e9 : (st.map (ux_cv G)).map (fun v => v.category) = st.map fun v => v.category := by
    rw [List.map_map]; congr 1; funext v; exact ux_cv_cat G v
  exact va_mmin C.1 C.2.1 (C.2.2.1.trans hl.1.symm) C.2.2.2.1 (hts _ hlink) (hts _ hs) (hts _ hi) (hts _ hcd) (by omega) (by rw [e9]; omega) (by omega) (by omega) d (n p e s m args below meth c H locs ls C hH hS hl)
theorem g_max {idx : Nat} {x y : Int32} (hlink : Cond.methodLink mi.2.2.1 idx Lib.Math.max.name ∈ ux_T) (hs : Cond.static Lib.Math.max.name ∈ ux_T) (hi : Cond.initialized "java/lang/Math" ∈ ux_T) (hcd : Cond.code Lib.Math.max.name Lib.Math.max.code 2 (some .int) ∈ ux_T) (d : decode mi.1 pc = .ok (.invokestatic idx, 3)) (hro : ux_ro R 2 0 0 u = true) (hc : Nat.ble ((st.map fun v => v.category).sum) 8 = true) (n : ux_W l G mi R Z (pc + 3) L (.int (if x < y then y else x) :: st) h u) : ux_W l G mi R Z pc L (.int y :: .int x :: st) h u := by
  intro p e s m args below meth c H locs ls C hH hS hl
  obtain ⟨r1, r2, r3, r4⟩ := ux_ro_of hro
  have hts := C.2.2.2.2.1
  have hc2 := Nat.le_of_ble_eq_true hc
  have e9 : (st.map (ux_cv G)).map (fun v => v.category) = st.map fun v => v.category := by
    rw [List.map_map]; congr 1; funext v; exact ux_cv_cat G v
  exact va_mmax C.1 C.2.1 (C.2.2.1.trans hl.1.symm) C.2.2.2.1 (hts _ hlink) (hts _ hs) (hts _ hi) (hts _ hcd) (by omega) (by rw [e9]; omega) (by omega) (by omega) d (n p e s m args below meth c H locs ls C hH hS hl)
end UXF
