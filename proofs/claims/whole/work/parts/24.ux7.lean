/-! NUMBERS: iI a, the int of a whole number; calls with one answer. -/
def iI (a : Int) : Int32 := Int32.ofInt a
theorem iI_n (n : Nat) : iI (n : Int) = nI n := Int32.ofInt_eq_ofNat
theorem iI_t {a : Int} (h1 : -2147483648 ≤ a) (h2 : a ≤ 2147483647) : (iI a).toInt = a := Int32.toInt_ofInt_of_le (by omega) (by omega)
theorem iI_of (x : Int32) : x = iI x.toInt := (Int32.ofInt_toInt x).symm
theorem iI_rg (x : Int32) : -2147483648 ≤ x.toInt ∧ x.toInt ≤ 2147483647 := by
  have h1 := x.toInt_lt
  have h2 := x.le_toInt
  omega
theorem iI_eq {a b : Int} (h1 : -2147483648 ≤ a) (h2 : a ≤ 2147483647) (h3 : -2147483648 ≤ b) (h4 : b ≤ 2147483647) : iI a = iI b ↔ a = b := by
  constructor
  · intro e
    have := congrArg Int32.toInt e
    rw [iI_t h1 h2, iI_t h3 h4] at this
    exact this
  · intro e; rw [e]
theorem iI_le {a b : Int} (h1 : -2147483648 ≤ a) (h2 : a ≤ 2147483647) (h3 : -2147483648 ≤ b) (h4 : b ≤ 2147483647) : iI a ≤ iI b ↔ a ≤ b := by
  rw [Int32.le_iff_toInt_le, iI_t h1 h2, iI_t h3 h4]
theorem iI_lt {a b : Int} (h1 : -2147483648 ≤ a) (h2 : a ≤ 2147483647) (h3 : -2147483648 ≤ b) (h4 : b ≤ 2147483647) : iI a < iI b ↔ a < b := by
  rw [Int32.lt_iff_toInt_lt, iI_t h1 h2, iI_t h3 h4]
theorem iI_add (a b : Int) : iI a + iI b = iI (a + b) := (Int32.ofInt_add a b).symm
theorem iI_sub (a b : Int) : iI a - iI b = iI (a - b) := (Int32.ofInt_sub a b).symm
theorem iI_mul (a b : Int) : iI a * iI b = iI (a * b) := (Int32.ofInt_mul a b).symm
theorem iI_neg (a : Int) : -iI a = iI (-a) := (Int32.ofInt_neg a).symm
theorem iI_0 : (0 : Int32) = iI 0 := by decide
theorem iI_1 : (1 : Int32) = iI 1 := by decide
theorem iI_2 : (2 : Int32) = iI 2 := by decide
theorem iI_m1 : (-1 : Int32) = iI (-1) := by decide
theorem iI_div {a b : Int} (h1 : -2147483647 ≤ a) (h2 : a ≤ 2147483647) (h3 : 0 < b) (h4 : b ≤ 2147483647) : iI a / iI b = iI (a.tdiv b) := by
  apply Int32.toInt_inj.mp
  rw [Int32.toInt_div_of_ne_right _ _ (fun e => by
    have := congrArg Int32.toInt e
    rw [iI_t (by omega) h4] at this
    have h9 : (-1 : Int32).toInt = -1 := by decide
    rw [h9] at this
    omega), iI_t (by omega) h2, iI_t (by omega) h4, iI_t]
  · have := Int.natAbs_tdiv_le_natAbs a b
    omega
  · have := Int.natAbs_tdiv_le_natAbs a b
    omega
theorem nI_iI (n : Nat) : nI n = iI n := (iI_n n).symm
theorem iI_get {a : Int} (h1 : 0 ≤ a) (h2 : a ≤ 2147483647) : iI a = nI a.toNat := by
  rw [← iI_n, Int.toNat_of_nonneg h1]
section UXG
variable {l : Launch} {G : ux_G} {mi : ux_I} {R : Room} {Z : ux_Zt} {pc : Nat} {L : List (Option Value)} {st : List Value} {h : ux_H} {u : Nat}
variable {idx n ci b : Nat} {y : MethodName} {mi' : ux_I} {d' k' u' : Nat} {av rest stk : List Value} {v : Value} {h2 : ux_H}
theorem f1_SN (ln : ux_lSN mi.2.2.1 idx y) (lk : ux_lk y mi' n) (hM : ux_F l G y mi' d' k' av h (some v) h2) (d : decode mi.1 pc = .ok (.invokestatic idx, 3)) (hst : stk = av.reverse ++ rest) (hn : av.length = n) (hh : mi'.2.2.2.2 = []) (hro : ux_ro R mi'.2.1 d' k' u = true) (hc : Nat.ble ((rest.map fun v => v.category).sum) 8 = true) (hu : u + k' = u') (kk : ux_W l G mi R Z (pc + 3) L (v :: rest) h2 u') : ux_W l G mi R Z pc L stk h u := f_SN ln lk hM d hst hn hh hro hc hu kk
theorem f0_SN (ln : ux_lSN mi.2.2.1 idx y) (lk : ux_lk y mi' n) (hM : ux_F l G y mi' d' k' av h none h2) (d : decode mi.1 pc = .ok (.invokestatic idx, 3)) (hst : stk = av.reverse ++ rest) (hn : av.length = n) (hh : mi'.2.2.2.2 = []) (hro : ux_ro R mi'.2.1 d' k' u = true) (hc : Nat.ble ((rest.map fun v => v.category).sum) 8 = true) (hu : u + k' = u') (kk : ux_W l G mi R Z (pc + 3) L rest h2 u') : ux_W l G mi R Z pc L stk h u := f_SN ln lk hM d hst hn hh hro hc hu kk
theorem f1_S (ln : ux_lS mi.2.2.1 idx y) (lk : ux_lk y mi' n) (hM : ux_F l G y mi' d' k' av h (some v) h2) (d : decode mi.1 pc = .ok (.invokestatic idx, 3)) (hst : stk = av.reverse ++ rest) (hn : av.length = n) (hh : mi'.2.2.2.2 = []) (hro : ux_ro R mi'.2.1 d' k' u = true) (hc : Nat.ble ((rest.map fun v => v.category).sum) 8 = true) (hu : u + k' = u') (kk : ux_W l G mi R Z (pc + 3) L (v :: rest) h2 u') : ux_W l G mi R Z pc L stk h u := f_S ln lk hM d hst hn hh hro hc hu kk
theorem f0_S (ln : ux_lS mi.2.2.1 idx y) (lk : ux_lk y mi' n) (hM : ux_F l G y mi' d' k' av h none h2) (d : decode mi.1 pc = .ok (.invokestatic idx, 3)) (hst : stk = av.reverse ++ rest) (hn : av.length = n) (hh : mi'.2.2.2.2 = []) (hro : ux_ro R mi'.2.1 d' k' u = true) (hc : Nat.ble ((rest.map fun v => v.category).sum) 8 = true) (hu : u + k' = u') (kk : ux_W l G mi R Z (pc + 3) L rest h2 u') : ux_W l G mi R Z pc L stk h u := f_S ln lk hM d hst hn hh hro hc hu kk
theorem f1_VN (ln : ux_lVN mi.2.2.1 idx y) (lk : ux_lk y mi' n) (hM : ux_F l G y mi' d' k' (.ref b :: av) h (some v) h2) (d : decode mi.1 pc = .ok (.invokevirtual idx, 3)) (hst : stk = av.reverse ++ .ref b :: rest) (hn : av.length = n) (hh : mi'.2.2.2.2 = []) (hb : ux_kd b = ci) (hcl : (ux_cl[ci]?).map (fun q => q.1) = some y.cls) (hro : ux_ro R mi'.2.1 d' k' u = true) (hc : Nat.ble ((rest.map fun v => v.category).sum) 8 = true) (hu : u + k' = u') (kk : ux_W l G mi R Z (pc + 3) L (v :: rest) h2 u') : ux_W l G mi R Z pc L stk h u := f_VN ln lk hM d hst hn hh hb hcl hro hc hu kk
theorem f0_VN (ln : ux_lVN mi.2.2.1 idx y) (lk : ux_lk y mi' n) (hM : ux_F l G y mi' d' k' (.ref b :: av) h none h2) (d : decode mi.1 pc = .ok (.invokevirtual idx, 3)) (hst : stk = av.reverse ++ .ref b :: rest) (hn : av.length = n) (hh : mi'.2.2.2.2 = []) (hb : ux_kd b = ci) (hcl : (ux_cl[ci]?).map (fun q => q.1) = some y.cls) (hro : ux_ro R mi'.2.1 d' k' u = true) (hc : Nat.ble ((rest.map fun v => v.category).sum) 8 = true) (hu : u + k' = u') (kk : ux_W l G mi R Z (pc + 3) L rest h2 u') : ux_W l G mi R Z pc L stk h u := f_VN ln lk hM d hst hn hh hb hcl hro hc hu kk
theorem f1_V (ln : ux_lV mi.2.2.1 idx y) (lk : ux_lk y mi' n) (hM : ux_F l G y mi' d' k' (.ref b :: av) h (some v) h2) (d : decode mi.1 pc = .ok (.invokevirtual idx, 3)) (hst : stk = av.reverse ++ .ref b :: rest) (hn : av.length = n) (hh : mi'.2.2.2.2 = []) (hb : ux_kd b = ci) (hcl : (ux_cl[ci]?).map (fun q => q.1) = some y.cls) (hro : ux_ro R mi'.2.1 d' k' u = true) (hc : Nat.ble ((rest.map fun v => v.category).sum) 8 = true) (hu : u + k' = u') (kk : ux_W l G mi R Z (pc + 3) L (v :: rest) h2 u') : ux_W l G mi R Z pc L stk h u := f_V ln lk hM d hst hn hh hb hcl hro hc hu kk
theorem f0_V (ln : ux_lV mi.2.2.1 idx y) (lk : ux_lk y mi' n) (hM : ux_F l G y mi' d' k' (.ref b :: av) h none h2) (d : decode mi.1 pc = .ok (.invokevirtual idx, 3)) (hst : stk = av.reverse ++ .ref b :: rest) (hn : av.length = n) (hh : mi'.2.2.2.2 = []) (hb : ux_kd b = ci) (hcl : (ux_cl[ci]?).map (fun q => q.1) = some y.cls) (hro : ux_ro R mi'.2.1 d' k' u = true) (hc : Nat.ble ((rest.map fun v => v.category).sum) 8 = true) (hu : u + k' = u') (kk : ux_W l G mi R Z (pc + 3) L rest h2 u') : ux_W l G mi R Z pc L stk h u := f_V ln lk hM d hst hn hh hb hcl hro hc hu kk
/-- a local is forgotten -/
theorem g_fg (i : Nat) {L' : List (Option Value)} (e : L.set i none = L') (n : ux_W l G mi R Z pc L' st h u) : ux_W l G mi R Z pc L st h u := by
  subst e
  intro p e s m args below meth c H locs ls C hH hS hl
  refine n p e s m args below meth c H locs ls C hH hS (ux_has hl ?_)
  rintro ⟨a, w⟩ hq
  obtain ⟨j, x, h1, h2, h3⟩ := (ux_lv_mem _ _ _ _).mp hq
  rw [List.getElem?_set] at h2
  split at h2
  · split at h2
    · cases h2
    · cases h2
  · exact (ux_lv_mem _ _ _ _).mpr ⟨j, x, h1, h2, h3⟩
end UXG
