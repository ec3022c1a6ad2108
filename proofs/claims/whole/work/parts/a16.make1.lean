/-! THE MAKING OF THE WORLD: the cells in the order in which the law makes them. -/
def ux_or (k : Nat) : Nat := if k = 176 then 0 else if k < 48 then k + 1 else if k < 176 then k + 3 else if k < 179 then k - 128 else k
theorem ux_or_lt {k : Nat} (h : k < 204) : ux_or k < 204 := by
  unfold ux_or
  (repeat' split) <;> omega
theorem ux_or_inj {i j : Nat} (hi : i < 204) (hj : j < 204) (h : ux_or i = ux_or j) : i = j := by
  unfold ux_or at h
  (repeat' split at h) <;> omega
def ux_al (G : ux_G) : Prop := ∀ k, k < 204 → G.2.1 k = G.1 + ux_or k
theorem ux_al_ok {G : ux_G} (h : ux_al G) : ux_ok G := ⟨fun i j hi hj e => ux_or_inj hi hj (by rw [h i hi, h j hj] at e; omega), fun k hk => by rw [h k hk]; omega⟩
/-- what the made cells hold -/
def x0 (k j : Nat) : Int32 := if k < 176 then (if k % 16 = 6 ∧ j < 6 then 20 else if k % 16 = 7 ∧ j < 6 then 30 else 0) else if k = 176 ∧ (j = 8 ∨ j = 9) then -1 else if k = 188 ∧ j = 3 then 32 else if k = 192 ∧ j = 9 then -1 else if k = 193 ∧ 4 ≤ j ∧ j < 10 then 20 else if k = 193 ∧ 10 ≤ j ∧ j < 16 then 30 else 0
def X0 : ux_H := fun k j => if k = 202 then .long 0 else if k = 203 then .double 0 else .int (x0 k j)
theorem X0_g {k : Nat} (h : k ≠ 202 ∧ k ≠ 203) (j : Nat) : xgi X0 k j = x0 k j := by
  unfold xgi X0
  rw [if_neg h.1, if_neg h.2]
/-- an object's fields where the first i are set -/
def gdf (k j : Nat) : Value := if (ux_rf k j).isSome then .null else .int 0
def gfs (G : ux_G) (k i : Nat) : List Value := (List.range (ux_ln k)).map (fun j => if j < i then ux_fv G X0 k j else gdf k j)
theorem gfs_len (G : ux_G) (k i : Nat) : (gfs G k i).length = ux_ln k := by simp [gfs]
theorem gfs_set {G : ux_G} {k j : Nat} (hj : j < ux_ln k) : (gfs G k j).set j (ux_fv G X0 k j) = gfs G k (j + 1) := by
  apply List.ext_getElem?
  intro i
  rw [List.getElem?_set]
  by_cases e : j = i
  · subst e
    rw [if_pos rfl, gfs_len, if_pos hj]
    simp [gfs, List.getElem?_map, List.getElem?_range hj]
  · rw [if_neg e]
    by_cases hi : i < ux_ln k
    · simp only [gfs, List.getElem?_map, List.getElem?_range hi, Option.map_some]
      congr 1
      by_cases q : i < j
      · rw [if_pos q, if_pos (by omega)]
      · rw [if_neg q, if_neg (by omega)]
    · rw [List.getElem?_eq_none (by rw [gfs_len]; omega), List.getElem?_eq_none (by rw [gfs_len]; omega)]
theorem gfs_skip {G : ux_G} {k j : Nat} (e : gdf k j = ux_fv G X0 k j) : gfs G k j = gfs G k (j + 1) := by
  unfold gfs
  refine List.map_congr_left fun i _ => ?_
  by_cases q : i < j
  · rw [if_pos q, if_pos (by omega)]
  · rw [if_neg q]
    by_cases q2 : i = j
    · subst q2
      rw [if_pos (by omega)]
      exact e
    · rw [if_neg (by omega)]
theorem gfs_at {G : ux_G} {k i j : Nat} (hj : j < ux_ln k) (hi : j < i) : (gfs G k i)[j]? = some (ux_fv G X0 k j) := by
  simp only [gfs, List.getElem?_map, List.getElem?_range hj, Option.map_some]
  rw [if_pos hi]
theorem gfs_end {G : ux_G} {k : Nat} (hk : ux_kd k < 7) : .inr (ux_kd k, gfs G k (ux_ln k)) = ux_en G X0 k := by
  rw [ux_en_o hk]
  congr 2
  unfold gfs
  refine List.map_congr_left fun i hi => ?_
  rw [if_pos (List.mem_range.mp hi)]
/-- the cells that aren't yet as they will be -/
def lk (k : Nat) : List (Nat × va_E) → Option va_E
  | [] => none
  | (a, e) :: r => if k = a then some e else lk k r
def ct (G : ux_G) (O : List (Nat × va_E)) (k : Nat) : va_E := (lk k O).getD (ux_en G X0 k)
theorem ct_top (G : ux_G) (O : List (Nat × va_E)) (k : Nat) (e : va_E) : ct G ((k, e) :: O) k = e := by
  unfold ct lk
  rw [if_pos rfl]
  rfl
theorem ct_ne (G : ux_G) (O : List (Nat × va_E)) {k a : Nat} (e : va_E) (h : k ≠ a) : ct G ((a, e) :: O) k = ct G O k := by
  unfold ct
  rw [show lk k ((a, e) :: O) = lk k O from if_neg h]
/-- a cell is as it will be -/
theorem ct_close {G : ux_G} {O : List (Nat × va_E)} {a : Nat} {e : va_E} (h : lk a O = none) (he : e = ux_en G X0 a) (k : Nat) : ct G ((a, e) :: O) k = ct G O k := by
  by_cases q : k = a
  · subst q
    rw [ct_top, he]
    unfold ct
    rw [h]
    rfl
  · exact ct_ne G O e q
theorem ct_under {G : ux_G} {O O' : List (Nat × va_E)} (h : ∀ k, ct G O k = ct G O' k) (a : Nat) (e : va_E) (k : Nat) : ct G ((a, e) :: O) k = ct G ((a, e) :: O') k := by
  by_cases q : k = a
  · subst q; rw [ct_top, ct_top]
  · rw [ct_ne G O e q, ct_ne G O' e q]; exact h k
theorem ct_swap {G : ux_G} {O : List (Nat × va_E)} {a b : Nat} {e f : va_E} (h : a ≠ b) (k : Nat) : ct G ((a, e) :: (b, f) :: O) k = ct G ((b, f) :: (a, e) :: O) k := by
  by_cases q : k = a
  · subst q
    rw [ct_top, ct_ne G _ f h, ct_top]
  · rw [ct_ne G _ e q]
    by_cases q2 : k = b
    · subst q2
      rw [ct_top, ct_top]
    · rw [ct_ne G _ f q2, ct_ne G _ f q2, ct_ne G _ e q]
def cx_P (G : ux_G) (O : List (Nat × va_E)) (n : Nat) (H : Heap) : Prop := H.size = G.1 + n ∧ ∀ k, k < 204 → ux_or k < n → va_at G.2.2.1 ux_cl (G.2.1 k, ct G O k) H
theorem cx_congr {G : ux_G} {O O' : List (Nat × va_E)} {n : Nat} {H : Heap} (hO : ∀ k, ct G O k = ct G O' k) (h : cx_P G O n H) : cx_P G O' n H := ⟨h.1, fun k a b => by rw [← hO k]; exact h.2 k a b⟩
theorem cx_set {G : ux_G} {O : List (Nat × va_E)} {n k0 : Nat} {e0 e1 : va_E} {H H1 : Heap} (al : ux_al G) (hP : cx_P G ((k0, e0) :: O) n H) (hk : k0 < 204) (z : H1.size = H.size) (he : va_at G.2.2.1 ux_cl (G.2.1 k0, e1) H1) (oq : ∀ q, q ≠ G.2.1 k0 → H1[q]? = H[q]?) : cx_P G ((k0, e1) :: O) n H1 := by
  refine ⟨z.trans hP.1, fun k a b => ?_⟩
  by_cases q : k = k0
  · subst q
    rw [ct_top]
    exact he
  · have h2 := hP.2 k a b
    rw [ct_ne G O e0 q] at h2
    rw [ct_ne G O e1 q]
    exact h2.kept (oq _ fun y => q ((ux_al_ok al).1 k k0 a hk y))
theorem cx_push {G : ux_G} {O : List (Nat × va_E)} {n k1 : Nat} {e1 : va_E} {H H1 : Heap} (al : ux_al G) (hP : cx_P G O n H) (hk : k1 < 204) (ho : ux_or k1 = n) (z : H1.size = H.size + 1) (he : va_at G.2.2.1 ux_cl (H.size, e1) H1) (oq : ∀ q, q < H.size → H1[q]? = H[q]?) : cx_P G ((k1, e1) :: O) (n + 1) H1 ∧ G.2.1 k1 = H.size := by
  have e : G.2.1 k1 = H.size := by rw [al k1 hk, ho, hP.1]
  refine ⟨⟨by rw [z, hP.1]; omega, fun k a b => ?_⟩, e⟩
  by_cases q : k = k1
  · subst q
    rw [ct_top, e]
    exact he
  · rw [ct_ne G O e1 q]
    have : ux_or k ≠ n := fun y => q (ux_or_inj a hk (y.trans ho.symm))
    have h2 := hP.2 k a (by omega)
    exact h2.kept (oq _ h2.lt)
def cx_C (l : Launch) (G : ux_G) (mi : ux_I) (b : Bool) (p : Program) (s : State) (m : MethodId) (args : Array Value) (meth : Method) (c : Code) : Prop := ux_C l G mi p s m args meth c ∧ va_AO RX4 s ∧ (b = true → meth.name = "<init>")
/-- from here the maker comes to its end Z -/
def cx_W (l : Launch) (G : ux_G) (mi : ux_I) (b : Bool) (R : Room) (Z : ux_Zt) (pc : Nat) (L : List (Option Value)) (st : List Value) (O : List (Nat × va_E)) (n u : Nat) : Prop :=
  ∀ p e s m args below meth c H locs ls, cx_C l G mi b p s m args meth c → cx_P G O n H → va_S (ux_A G) s.heap H locs → lv_has ls mi.2.1 (ux_lv G 0 L) → W p l e R s m args below meth c H locs u (6 * u) (Z args s below) (F0 m pc ls (st.map (ux_cv G)))
section CXR
variable {l : Launch} {G : ux_G} {mi : ux_I} {b : Bool} {R : Room} {Z : ux_Zt} {pc : Nat} {L : List (Option Value)} {st : List Value} {O : List (Nat × va_E)} {n u : Nat}
theorem c_O {O' : List (Nat × va_E)} (hO : ∀ k, ct G O k = ct G O' k) (k : cx_W l G mi b R Z pc L st O' n u) : cx_W l G mi b R Z pc L st O n u := by
  intro p e s m args below meth c H locs ls C hP hS hl
  exact k p e s m args below meth c H locs ls C (cx_congr hO hP) hS hl
theorem c_wid {k : Nat} (hk : u ≤ k) (kk : cx_W l G mi b R Z pc L st O n k) : cx_W l G mi b R Z pc L st O n u := by
  intro p e s m args below meth c H locs ls C hP hS hl
  exact W.widen hk (by omega) (kk p e s m args below meth c H locs ls C hP hS hl)
theorem c_iconst {z : Int} {v : Int32} (d : decode mi.1 pc = .ok (.iconst z, 1)) (hv : Int32.ofInt z = v) (k : cx_W l G mi b R Z (pc + 1) L (.int v :: st) O n u) : cx_W l G mi b R Z pc L st O n u := by
  intro p e s m args below meth c H locs ls C hP hS hl
  exact lv_iconst C.1.1 C.1.2.1 d hv (k p e s m args below meth c H locs ls C hP hS hl)
theorem c_bipush {z : Int} {v : Int32} (d : decode mi.1 pc = .ok (.bipush z, 2)) (hv : (Int8.ofInt z).toInt32 = v) (k : cx_W l G mi b R Z (pc + 2) L (.int v :: st) O n u) : cx_W l G mi b R Z pc L st O n u := by
  intro p e s m args below meth c H locs ls C hP hS hl
  exact lv_bipush C.1.1 C.1.2.1 d hv (k p e s m args below meth c H locs ls C hP hS hl)
theorem c_sipush {z : Int} {v : Int32} (d : decode mi.1 pc = .ok (.sipush z, 3)) (hv : (Int16.ofInt z).toInt32 = v) (k : cx_W l G mi b R Z (pc + 3) L (.int v :: st) O n u) : cx_W l G mi b R Z pc L st O n u := by
  intro p e s m args below meth c H locs ls C hP hS hl
  exact lv_sipush C.1.1 C.1.2.1 d hv (k p e s m args below meth c H locs ls C hP hS hl)
theorem c_iload_n {i : Fin 4} {x : Int32} (d : decode mi.1 pc = .ok (.iload_n i, 1)) (hL : L[(i : Nat)]? = some (some (.int x))) (k : cx_W l G mi b R Z (pc + 1) L (.int x :: st) O n u) : cx_W l G mi b R Z pc L st O n u := by
  intro p e s m args below meth c H locs ls C hP hS hl
  exact lv_iload_n C.1.1 C.1.2.1 d rfl (ux_at hl hL) (k p e s m args below meth c H locs ls C hP hS hl)
theorem c_aload_n {i : Fin 4} {x : Nat} (d : decode mi.1 pc = .ok (.aload_n i, 1)) (hL : L[(i : Nat)]? = some (some (.ref x))) (k : cx_W l G mi b R Z (pc + 1) L (.ref x :: st) O n u) : cx_W l G mi b R Z pc L st O n u := by
  intro p e s m args below meth c H locs ls C hP hS hl
  exact lv_aload_n C.1.1 C.1.2.1 d rfl (ux_at hl hL) (k p e s m args below meth c H locs ls C hP hS hl)
theorem c_istore_n {i : Fin 4} {x : Int32} {j : Nat} {L' : List (Option Value)} (d : decode mi.1 pc = .ok (.istore_n i, 1)) (hi : (i : Nat) = j) (h1 : ux_ob L = true) (hk : Nat.ble (j + 1) mi.2.1 = true) (eL : L.set j (some (.int x)) = L') (k : cx_W l G mi b R Z (pc + 1) L' st O n u) : cx_W l G mi b R Z pc L (.int x :: st) O n u := by
  subst hi; subst eL
  intro p e s m args below meth c H locs ls C hP hS hl
  exact lv_istore_n C.1.1 C.1.2.1 d rfl hl (Nat.le_of_ble_eq_true hk) rfl (fun ls' hl' => k p e s m args below meth c H locs ls' C hP hS (ux_set1 (fun j w _ q => ux_ob_one h1 j w q) hl'))
theorem c_istore {x : Int32} {j : Nat} {L' : List (Option Value)} (d : decode mi.1 pc = .ok (.istore j, 2)) (h1 : ux_ob L = true) (hk : Nat.ble (j + 1) mi.2.1 = true) (eL : L.set j (some (.int x)) = L') (k : cx_W l G mi b R Z (pc + 2) L' st O n u) : cx_W l G mi b R Z pc L (.int x :: st) O n u := by
  subst eL
  intro p e s m args below meth c H locs ls C hP hS hl
  exact lv_istore C.1.1 C.1.2.1 d hl (Nat.le_of_ble_eq_true hk) rfl (fun ls' hl' => k p e s m args below meth c H locs ls' C hP hS (ux_set1 (fun j w _ q => ux_ob_one h1 j w q) hl'))
theorem c_astore_n {i : Fin 4} {x : Nat} {j : Nat} {L' : List (Option Value)} (d : decode mi.1 pc = .ok (.astore_n i, 1)) (hi : (i : Nat) = j) (h1 : ux_ob L = true) (hk : Nat.ble (j + 1) mi.2.1 = true) (eL : L.set j (some (.ref x)) = L') (k : cx_W l G mi b R Z (pc + 1) L' st O n u) : cx_W l G mi b R Z pc L (.ref x :: st) O n u := by
  subst hi; subst eL
  intro p e s m args below meth c H locs ls C hP hS hl
  exact lv_astore_n C.1.1 C.1.2.1 d rfl hl (Nat.le_of_ble_eq_true hk) rfl (fun ls' hl' => k p e s m args below meth c H locs ls' C hP hS (ux_set1 (v := .ref x) (fun j w _ q => ux_ob_one h1 j w q) hl'))
theorem c_astore {x : Nat} {j : Nat} {L' : List (Option Value)} (d : decode mi.1 pc = .ok (.astore j, 2)) (h1 : ux_ob L = true) (hk : Nat.ble (j + 1) mi.2.1 = true) (eL : L.set j (some (.ref x)) = L') (k : cx_W l G mi b R Z (pc + 2) L' st O n u) : cx_W l G mi b R Z pc L (.ref x :: st) O n u := by
  subst eL
  intro p e s m args below meth c H locs ls C hP hS hl
  exact lv_astore C.1.1 C.1.2.1 d hl (Nat.le_of_ble_eq_true hk) rfl (fun ls' hl' => k p e s m args below meth c H locs ls' C hP hS (ux_set1 (v := .ref x) (fun j w _ q => ux_ob_one h1 j w q) hl'))
theorem c_iinc {j : Nat} {z : Int} {x v : Int32} {L' : List (Option Value)} (d : decode mi.1 pc = .ok (.iinc j z, 3)) (hL : L[j]? = some (some (.int x))) (hv : x + Int32.ofInt z = v) (h1 : ux_ob L = true) (hk : Nat.ble (j + 1) mi.2.1 = true) (eL : L.set j (some (.int v)) = L') (k : cx_W l G mi b R Z (pc + 3) L' st O n u) : cx_W l G mi b R Z pc L st O n u := by
  subst eL
  intro p e s m args below meth c H locs ls C hP hS hl
  obtain ⟨k2, hk2⟩ := ux_iinc_at (G := G) hL
  exact lv_iinc C.1.1 C.1.2.1 d hl hk2 hv (Nat.le_of_ble_eq_true hk) rfl (fun ls' hl' => k p e s m args below meth c H locs ls' C hP hS (ux_set1 (v := .int v) (fun j w _ q => ux_ob_one h1 j w q) hl'))
theorem c_dup {v : Value} (d : decode mi.1 pc = .ok (.dup, 1)) (hv : v.category = 1) (k : cx_W l G mi b R Z (pc + 1) L (v :: v :: st) O n u) : cx_W l G mi b R Z pc L (v :: st) O n u := by
  intro p e s m args below meth c H locs ls C hP hS hl
  exact lv_dup C.1.1 C.1.2.1 d (by rw [ux_cv_cat]; exact hv) (k p e s m args below meth c H locs ls C hP hS hl)
theorem c_iadd {x y : Int32} (d : decode mi.1 pc = .ok (.iadd, 1)) (k : cx_W l G mi b R Z (pc + 1) L (.int (x + y) :: st) O n u) : cx_W l G mi b R Z pc L (.int y :: .int x :: st) O n u := by
  intro p e s m args below meth c H locs ls C hP hS hl
  exact lv_iadd C.1.1 C.1.2.1 d (k p e s m args below meth c H locs ls C hP hS hl)
theorem c_goto {off : Int} {tgt : Nat} (d : decode mi.1 pc = .ok (.goto off, 3)) (ht : (pc : Int) + off = (tgt : Int)) (k : cx_W l G mi b R Z tgt L st O n u) : cx_W l G mi b R Z pc L st O n u := by
  intro p e s m args below meth c H locs ls C hP hS hl
  exact lv_goto C.1.1 C.1.2.1 d ht (k p e s m args below meth c H locs ls C hP hS hl)
theorem c_icmp_ge {x y : Int32} {off : Int} {tgt : Nat} (d : decode mi.1 pc = .ok (.if_icmp .ge off, 3)) (ht : (pc : Int) + off = (tgt : Int)) (kt : y ≤ x → cx_W l G mi b R Z tgt L st O n u) (kf : ¬ y ≤ x → cx_W l G mi b R Z (pc + 3) L st O n u) : cx_W l G mi b R Z pc L (.int y :: .int x :: st) O n u := by
  intro p e s m args below meth c H locs ls C hP hS hl
  exact lv_icmp_ge C.1.1 C.1.2.1 d ht (fun q => kt q p e s m args below meth c H locs ls C hP hS hl) (fun q => kf q p e s m args below meth c H locs ls C hP hS hl)
theorem c_top {x y : Int32} (e : x = y) (k : cx_W l G mi b R Z pc L (.int y :: st) O n u) : cx_W l G mi b R Z pc L (.int x :: st) O n u := e ▸ k
end CXR
