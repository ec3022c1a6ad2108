/-! THE UNIFORM WORLD: every cell of a run has a number (its place in one fixed layout); what all cells hold is ONE function of number and place. References never change once the objects are made: they are the layout's. -/
abbrev ux_H : Type := Nat → Nat → Value
def xgi (h : ux_H) (k j : Nat) : Int32 := match h k j with
  | .int x => x
  | _ => 0
def xgl (h : ux_H) (k j : Nat) : Int64 := match h k j with
  | .long x => x
  | _ => 0
def xgd (h : ux_H) (k j : Nat) : UInt64 := match h k j with
  | .double x => x
  | _ => 0
def xsv (h : ux_H) (k j : Nat) (v : Value) : ux_H := fun a b => if a = k ∧ b = j then v else h a b
def xsi (h : ux_H) (k j : Nat) (x : Int32) : ux_H := xsv h k j (.int x)
theorem xgi_sif (h : ux_H) (k j : Nat) (x : Int32) (a b : Nat) : xgi (xsi h k j x) a b = if a = k ∧ b = j then x else xgi h a b := by
  by_cases hc : a = k ∧ b = j
  · simp [xgi, xsi, xsv, hc]
  · simp [xgi, xsi, xsv, hc]
theorem xgi_si (h : ux_H) (k j : Nat) (x : Int32) : xgi (xsi h k j x) k j = x := by simp [xgi_sif]
theorem xgi_ne (h : ux_H) (k j : Nat) (x : Int32) (a b : Nat) (hn : ¬ (a = k ∧ b = j)) : xgi (xsi h k j x) a b = xgi h a b := by simp [xgi_sif, hn]
theorem xgl_si (h : ux_H) (k j : Nat) (x : Int32) (a b : Nat) (hn : a ≠ k) : xgl (xsi h k j x) a b = xgl h a b := by simp [xgl, xsi, xsv, hn]
theorem xgd_si (h : ux_H) (k j : Nat) (x : Int32) (a b : Nat) (hn : a ≠ k) : xgd (xsi h k j x) a b = xgd h a b := by simp [xgd, xsi, xsv, hn]
/-- the kind of a cell: the number of its class (0 to 6), or 10 int[], 11 char[], 12 long[], 13 double[], 14 School[] -/
def ux_kd (k : Nat) : Nat :=
  if k < 176 then (if k % 16 = 0 then 4 else 10)
  else if k < 180 then (if k = 176 then 5 else if k = 177 then 0 else if k = 178 then 14 else 3)
  else if k < 188 then 10
  else if k < 193 then (if k = 188 then 1 else if k = 189 then 11 else if k = 190 then 2 else if k = 191 then 11 else 6)
  else if k < 202 then 10
  else if k = 202 then 12 else if k = 203 then 13 else 99
/-- how many fields or elements -/
def ux_ln (k : Nat) : Nat :=
  if k < 176 then (if k % 16 = 0 then 19 else if k % 16 < 6 then 8 else if k % 16 < 8 then 6 else 40)
  else if k < 180 then (if k = 176 then 10 else if k = 177 then 3 else if k = 178 then 8 else 12)
  else if k < 188 then (if k < 185 then 4 else if k < 187 then 8 else 32)
  else if k < 193 then (if k = 188 then 11 else if k = 189 then 70 else if k = 190 then 2 else if k = 191 then 12 else 18)
  else if k < 202 then (if k < 196 then 376 else if k = 196 then 3008 else if k = 197 then 70 else if k = 198 then 40 else if k < 201 then 4 else 20)
  else 1
/-- the cell that a place refers to -/
def ux_rf (k j : Nat) : Option Nat :=
  if k < 176 then (if k % 16 = 0 then (if 4 ≤ j ∧ j < 19 then some (k + j - 3) else none) else none)
  else if k = 176 then (match j with
    | 0 => some 0
    | 1 => some 16
    | 2 => some 32
    | 3 => some 177
    | 4 => some 179
    | 5 => some 188
    | 6 => some 190
    | _ => none)
  else if k = 177 then (match j with
    | 0 => some 178
    | _ => none)
  else if k = 178 then (if j < 8 then some (48 + 16 * j) else none)
  else if k = 179 then (if j < 8 then some (180 + j) else none)
  else if k = 188 then (match j with
    | 0 => some 189
    | _ => none)
  else if k = 190 then (match j with
    | 0 => some 191
    | _ => none)
  else if k = 192 then (match j with
    | 1 => some 193
    | 2 => some 194
    | 4 => some 195
    | 5 => some 196
    | 7 => some 197
    | 12 => some 198
    | 13 => some 199
    | 14 => some 200
    | 17 => some 201
    | _ => none)
  else none
/-- the start of the law's heap; where the cells lie; the classes' and arrays' numbers in the tables -/
abbrev ux_G : Type := Nat × (Nat → Nat) × va_G × (Nat → ClassId)
def ux_cv (G : ux_G) : Value → Value := fun v => match v with
  | .ref n => .ref (if n < 1000 then G.2.1 n else n - 1000)
  | .int x => .int x
  | .long x => .long x
  | .float x => .float x
  | .double x => .double x
  | .null => .null
  | .retAddr q => .retAddr q
theorem ux_cv_ref (G : ux_G) {k : Nat} (h : k < 204) : ux_cv G (.ref k) = .ref (G.2.1 k) := by
  show Value.ref (if k < 1000 then G.2.1 k else k - 1000) = _
  rw [if_pos (by omega)]
theorem ux_cv_raw (G : ux_G) (q : Nat) : ux_cv G (.ref (1000 + q)) = .ref q := by
  show Value.ref (if 1000 + q < 1000 then G.2.1 (1000 + q) else 1000 + q - 1000) = _
  rw [if_neg (by omega), Nat.add_sub_cancel_left]
theorem ux_cv_cat (G : ux_G) (v : Value) : (ux_cv G v).category = v.category := by cases v <;> rfl
abbrev ux_cl : List vw_C := [(RX0, TX0, 3), (RX1, TX1, 11), (RX2, TX2, 2), (RX3, TX3, 12), (RX4, TX4, 19), (RX5, TX5, 10), (RX6, TX6, 18)]
def ux_nf (c : Nat) : Nat := match c with
  | 0 => 3
  | 1 => 11
  | 2 => 2
  | 3 => 12
  | 4 => 19
  | 5 => 10
  | 6 => 18
  | _ => 0
theorem ux_ln_nf : ∀ k, k < 204 → ux_kd k < 7 → ux_ln k = ux_nf (ux_kd k) := by decide +kernel
theorem ux_kd_lt {k : Nat} (h : ux_kd k < 99) : k < 204 := by
  rcases Nat.lt_or_ge k 204 with q | q
  · exact q
  · exfalso
    unfold ux_kd at h
    rw [if_neg (by omega), if_neg (by omega), if_neg (by omega), if_neg (by omega), if_neg (by omega), if_neg (by omega), if_neg (by omega)] at h
    omega
def ux_fv (G : ux_G) (h : ux_H) (k j : Nat) : Value := match ux_rf k j with
  | some q => .ref (G.2.1 q)
  | none => .int (xgi h k j)
def ux_en (G : ux_G) (h : ux_H) (k : Nat) : va_E :=
  if ux_kd k = 10 then .inl (G.2.2.2 0, ux_ln k, .inl (xgi h k))
  else if ux_kd k = 11 then .inl (G.2.2.2 1, ux_ln k, .inl (xgi h k))
  else if ux_kd k = 12 then .inl (G.2.2.2 2, ux_ln k, .inr (.inl (xgl h k)))
  else if ux_kd k = 13 then .inl (G.2.2.2 3, ux_ln k, .inr (.inr (.inr (.inl (xgd h k)))))
  else if ux_kd k = 14 then .inl (G.2.2.2 4, ux_ln k, .inr (.inr (.inr (.inr (fun j => (ux_rf k j).map G.2.1)))))
  else .inr (ux_kd k, (List.range (ux_ln k)).map (ux_fv G h k))
theorem ux_en_i {G : ux_G} {h : ux_H} {k : Nat} (hk : ux_kd k = 10) : ux_en G h k = .inl (G.2.2.2 0, ux_ln k, .inl (xgi h k)) := by simp [ux_en, hk]
theorem ux_en_c {G : ux_G} {h : ux_H} {k : Nat} (hk : ux_kd k = 11) : ux_en G h k = .inl (G.2.2.2 1, ux_ln k, .inl (xgi h k)) := by simp [ux_en, hk]
theorem ux_en_l {G : ux_G} {h : ux_H} {k : Nat} (hk : ux_kd k = 12) : ux_en G h k = .inl (G.2.2.2 2, ux_ln k, .inr (.inl (xgl h k))) := by simp [ux_en, hk]
theorem ux_en_d {G : ux_G} {h : ux_H} {k : Nat} (hk : ux_kd k = 13) : ux_en G h k = .inl (G.2.2.2 3, ux_ln k, .inr (.inr (.inr (.inl (xgd h k))))) := by simp [ux_en, hk]
theorem ux_en_q {G : ux_G} {h : ux_H} {k : Nat} (hk : ux_kd k = 14) : ux_en G h k = .inl (G.2.2.2 4, ux_ln k, .inr (.inr (.inr (.inr (fun j => (ux_rf k j).map G.2.1))))) := by simp [ux_en, hk]
theorem ux_en_o {G : ux_G} {h : ux_H} {k : Nat} (hk : ux_kd k < 7) : ux_en G h k = .inr (ux_kd k, (List.range (ux_ln k)).map (ux_fv G h k)) := by
  unfold ux_en
  rw [if_neg (by omega), if_neg (by omega), if_neg (by omega), if_neg (by omega), if_neg (by omega)]
def ux_ws (G : ux_G) (h : ux_H) : va_W := (List.range 204).map (fun k => (G.2.1 k, ux_en G h k))
theorem ux_ws_at (G : ux_G) (h : ux_H) {k : Nat} (hk : k < 204) : (ux_ws G h)[k]? = some (G.2.1 k, ux_en G h k) := by
  simp [ux_ws, hk]
theorem ux_ws_ge (G : ux_G) (h : ux_H) {k : Nat} (hk : ¬ k < 204) : (ux_ws G h)[k]? = none := by
  simp only [ux_ws, List.getElem?_map, Option.map_eq_none_iff, List.getElem?_eq_none_iff, List.length_range]
  omega
/-- another function makes the same world but at one cell -/
theorem ux_ws_set {G : ux_G} {h h' : ux_H} {k : Nat} (hk : k < 204) {e : va_E} (he : ux_en G h' k = e) (ho : ∀ a, a < 204 → a ≠ k → ux_en G h' a = ux_en G h a) : (ux_ws G h).set k (G.2.1 k, e) = ux_ws G h' := by
  apply List.ext_getElem?
  intro i
  rw [List.getElem?_set]
  by_cases hi : i < 204
  · rw [ux_ws_at G h' hi, ux_ws_at G h hi]
    by_cases e1 : k = i
    · subst e1
      rw [if_pos rfl, he]
      simp [ux_ws, hk]
    · rw [if_neg e1, ho i hi (fun z => e1 z.symm)]
  · rw [ux_ws_ge G h' hi, ux_ws_ge G h hi]
    have : ¬ k = i := by omega
    rw [if_neg this]
theorem ux_xgi_fun {h : ux_H} {k j : Nat} {x : Int32} {a : Nat} (ha : a ≠ k) : xgi (xsi h k j x) a = xgi h a := by
  funext b
  exact xgi_ne h k j x a b (fun z => ha z.1)
theorem ux_xgl_fun {h : ux_H} {k j : Nat} {v : Value} {a : Nat} (ha : a ≠ k) : xgl (xsv h k j v) a = xgl h a := by
  funext b
  simp [xgl, xsv, ha]
theorem ux_xgd_fun {h : ux_H} {k j : Nat} {v : Value} {a : Nat} (ha : a ≠ k) : xgd (xsv h k j v) a = xgd h a := by
  funext b
  simp [xgd, xsv, ha]
theorem ux_xgi_funv {h : ux_H} {k j : Nat} {v : Value} {a : Nat} (ha : a ≠ k) : xgi (xsv h k j v) a = xgi h a := by
  funext b
  simp [xgi, xsv, ha]
theorem ux_fv_fun {G : ux_G} {h : ux_H} {k j : Nat} {v : Value} {a : Nat} (ha : a ≠ k) : ux_fv G (xsv h k j v) a = ux_fv G h a := by
  funext b
  unfold ux_fv
  rw [ux_xgi_funv ha]
theorem ux_en_other {G : ux_G} {h : ux_H} {k j : Nat} {v : Value} {a : Nat} (ha : a ≠ k) : ux_en G (xsv h k j v) a = ux_en G h a := by
  unfold ux_en
  rw [ux_xgi_funv ha, ux_xgl_fun ha, ux_xgd_fun ha, ux_fv_fun ha]
theorem ux_upd_i {h : ux_H} {k j : Nat} {x : Int32} : xgi (xsi h k j x) k = upd (xgi h k) j x := by
  funext b
  rw [xgi_sif]
  unfold upd
  by_cases e : b = j <;> simp [e]
theorem ux_set_i {G : ux_G} {h : ux_H} {k j : Nat} {x : Int32} (hk : ux_kd k = 10) : (ux_ws G h).set k (G.2.1 k, .inl (G.2.2.2 0, ux_ln k, .inl (upd (xgi h k) j x))) = ux_ws G (xsi h k j x) :=
  ux_ws_set (ux_kd_lt (by omega)) (by rw [ux_en_i hk, ux_upd_i]) (fun a _ ha => ux_en_other ha)
theorem ux_set_c {G : ux_G} {h : ux_H} {k j : Nat} {x : Int32} (hk : ux_kd k = 11) : (ux_ws G h).set k (G.2.1 k, .inl (G.2.2.2 1, ux_ln k, .inl (upd (xgi h k) j x))) = ux_ws G (xsi h k j x) :=
  ux_ws_set (ux_kd_lt (by omega)) (by rw [ux_en_c hk, ux_upd_i]) (fun a _ ha => ux_en_other ha)
theorem ux_set_l {G : ux_G} {h : ux_H} {k j : Nat} {x : Int64} (hk : ux_kd k = 12) : (ux_ws G h).set k (G.2.1 k, .inl (G.2.2.2 2, ux_ln k, .inr (.inl (vp_updL (xgl h k) j x)))) = ux_ws G (xsv h k j (.long x)) := by
  refine ux_ws_set (ux_kd_lt (by omega)) ?_ (fun a _ ha => ux_en_other ha)
  rw [ux_en_l hk]
  have : xgl (xsv h k j (.long x)) k = vp_updL (xgl h k) j x := by
    funext b
    unfold vp_updL xgl xsv
    by_cases e : b = j <;> simp [e]
  rw [this]
theorem ux_set_d {G : ux_G} {h : ux_H} {k j : Nat} {x : UInt64} (hk : ux_kd k = 13) : (ux_ws G h).set k (G.2.1 k, .inl (G.2.2.2 3, ux_ln k, .inr (.inr (.inr (.inl (vf_upd (xgd h k) j x)))))) = ux_ws G (xsv h k j (.double x)) := by
  refine ux_ws_set (ux_kd_lt (by omega)) ?_ (fun a _ ha => ux_en_other ha)
  rw [ux_en_d hk]
  have : xgd (xsv h k j (.double x)) k = vf_upd (xgd h k) j x := by
    funext b
    unfold vf_upd xgd xsv
    by_cases e : b = j <;> simp [e]
  rw [this]
theorem ux_set_o {G : ux_G} {h : ux_H} {k j : Nat} {x : Int32} (hk : ux_kd k < 7) (hj : j < ux_ln k) (hr : ux_rf k j = none) : (ux_ws G h).set k (G.2.1 k, .inr (ux_kd k, ((List.range (ux_ln k)).map (ux_fv G h k)).set j (.int x))) = ux_ws G (xsi h k j x) := by
  refine ux_ws_set (ux_kd_lt (by omega)) ?_ (fun a _ ha => ux_en_other ha)
  rw [ux_en_o hk]
  congr 2
  apply List.ext_getElem?
  intro i
  rw [List.getElem?_set]
  by_cases hi : i < ux_ln k
  · simp only [List.getElem?_map, List.getElem?_range hi, Option.map_some, List.length_map, List.length_range, hj, if_true]
    by_cases e : j = i
    · subst e
      simp [ux_fv, hr, xgi_si]
    · rw [if_neg e]
      congr 1
      unfold ux_fv
      rw [xgi_ne h k j x k i (fun z => e z.2.symm)]
  · have h1 : ¬ j = i := by omega
    have h2 : (List.range (ux_ln k))[i]? = none := by simp; omega
    rw [if_neg h1]
    simp only [List.getElem?_map, h2, Option.map_none]
