/-! THE CLASS: averages: a count of bits, a quotient of doubles that is a number. -/
section
variable {l : Launch} {G : ux_G} {mi : ux_I} {R : Room} {Z : ux_Zt} {pc u : Nat} {L : List (Option Value)} {st : List Value} {h : ux_H}
theorem g_ldcw {ix : Nat} {v : Int32} (hm : Cond.constant mi.2.2.1 ix v ∈ ux_T) (d : decode mi.1 pc = .ok (.ldc_w ix, 3)) (k : ux_W l G mi R Z (pc + 3) L (.int v :: st) h u) : ux_W l G mi R Z pc L st h u := by
  intro p e s m args below meth c H locs ls C hH hS hl
  exact lv_ldcw C.1 C.2.1 C.2.2.2.1 (C.2.2.2.2.1 _ hm) d (k p e s m args below meth c H locs ls C hH hS hl)
end
theorem kc_265 : Cond.constant RJ6 265 1431655765 ∈ ux_T := ux_mem (n := 1209) (by decide +kernel) (by decide +kernel)
theorem kc_266 : Cond.constant RJ6 266 858993459 ∈ ux_T := ux_mem (n := 1210) (by decide +kernel) (by decide +kernel)
theorem kc_267 : Cond.constant RJ6 267 252645135 ∈ ux_T := ux_mem (n := 1211) (by decide +kernel) (by decide +kernel)
def bcu (x k : Int32) : Int32 := (x.toUInt32 >>> (k.toUInt32 &&& Int32.toUInt32 31)).toInt32
def bc1 (x : Int32) : Int32 := x - (bcu x 1 &&& 1431655765)
def bc2 (x : Int32) : Int32 := (x &&& 858993459) + (bcu x 2 &&& 858993459)
def bc3 (x : Int32) : Int32 := (x + bcu x 4) &&& 252645135
def bc4 (x : Int32) : Int32 := x + bcu x 8
def bc5 (x : Int32) : Int32 := x + bcu x 16
def x_bc (x : Int32) : Int32 := bc5 (bc4 (bc3 (bc2 (bc1 x)))) &&& 63
set_option maxRecDepth 100000 in
theorem mJ6_bitCount_0f7a4 {l : Launch} {G : ux_G} {h : ux_H} {x : Int32} : ux_F l G yJ6_bitCount_0f7a4 iJ6_bitCount_0f7a4 1 0 [.int x] h (some (.int (x_bc x))) (h) := by
  unfold ux_F
  refine ux_ent (L' := [some (.int x)]) kJ6_bitCount_0f7a4 rfl rfl rfl rfl ?_
  refine g_iload_n dJ6_bitCount_0f7a4_0 rfl ?_
  refine g_iload_n dJ6_bitCount_0f7a4_1 rfl ?_
  refine g_iconst (v := 1) dJ6_bitCount_0f7a4_2 (by decide) ?_
  refine g_iushr dJ6_bitCount_0f7a4_3 rfl ?_
  refine g_ldcw (kc_265) dJ6_bitCount_0f7a4_4 ?_
  refine g_iand dJ6_bitCount_0f7a4_7 ?_
  refine g_isub dJ6_bitCount_0f7a4_8 ?_
  refine g_top (y := bc1 x) rfl ?_
  refine s_i (i := 0) dJ6_bitCount_0f7a4_9 rfl rfl rfl rfl ?_
  dsimp only [List.set]
  refine g_iload_n dJ6_bitCount_0f7a4_10 rfl ?_
  refine g_ldcw (kc_266) dJ6_bitCount_0f7a4_11 ?_
  refine g_iand dJ6_bitCount_0f7a4_14 ?_
  refine g_iload_n dJ6_bitCount_0f7a4_15 rfl ?_
  refine g_iconst (v := 2) dJ6_bitCount_0f7a4_16 (by decide) ?_
  refine g_iushr dJ6_bitCount_0f7a4_17 rfl ?_
  refine g_ldcw (kc_266) dJ6_bitCount_0f7a4_18 ?_
  refine g_iand dJ6_bitCount_0f7a4_21 ?_
  refine g_iadd dJ6_bitCount_0f7a4_22 ?_
  refine g_top (y := bc2 (bc1 x)) rfl ?_
  refine s_i (i := 0) dJ6_bitCount_0f7a4_23 rfl rfl rfl rfl ?_
  dsimp only [List.set]
  refine g_iload_n dJ6_bitCount_0f7a4_24 rfl ?_
  refine g_iload_n dJ6_bitCount_0f7a4_25 rfl ?_
  refine g_iconst (v := 4) dJ6_bitCount_0f7a4_26 (by decide) ?_
  refine g_iushr dJ6_bitCount_0f7a4_27 rfl ?_
  refine g_iadd dJ6_bitCount_0f7a4_28 ?_
  refine g_ldcw (kc_267) dJ6_bitCount_0f7a4_29 ?_
  refine g_iand dJ6_bitCount_0f7a4_32 ?_
  refine g_top (y := bc3 (bc2 (bc1 x))) rfl ?_
  refine s_i (i := 0) dJ6_bitCount_0f7a4_33 rfl rfl rfl rfl ?_
  dsimp only [List.set]
  refine g_iload_n dJ6_bitCount_0f7a4_34 rfl ?_
  refine g_iload_n dJ6_bitCount_0f7a4_35 rfl ?_
  refine g_bipush (v := 8) dJ6_bitCount_0f7a4_36 (by decide) ?_
  refine g_iushr dJ6_bitCount_0f7a4_38 rfl ?_
  refine g_iadd dJ6_bitCount_0f7a4_39 ?_
  refine g_top (y := bc4 (bc3 (bc2 (bc1 x)))) rfl ?_
  refine s_i (i := 0) dJ6_bitCount_0f7a4_40 rfl rfl rfl rfl ?_
  dsimp only [List.set]
  refine g_iload_n dJ6_bitCount_0f7a4_41 rfl ?_
  refine g_iload_n dJ6_bitCount_0f7a4_42 rfl ?_
  refine g_bipush (v := 16) dJ6_bitCount_0f7a4_43 (by decide) ?_
  refine g_iushr dJ6_bitCount_0f7a4_45 rfl ?_
  refine g_iadd dJ6_bitCount_0f7a4_46 ?_
  refine g_top (y := bc5 (bc4 (bc3 (bc2 (bc1 x))))) rfl ?_
  refine s_i (i := 0) dJ6_bitCount_0f7a4_47 rfl rfl rfl rfl ?_
  dsimp only [List.set]
  refine g_iload_n dJ6_bitCount_0f7a4_48 rfl ?_
  refine g_bipush (v := 63) dJ6_bitCount_0f7a4_49 (by decide) ?_
  refine g_iand dJ6_bitCount_0f7a4_51 ?_
  refine g_ireturn dJ6_bitCount_0f7a4_52 rfl rfl (by decide) ?_
  exact ⟨rfl, rfl⟩
theorem u32_of (a : Int) : (iI a).toUInt32.toNat = (a % 4294967296).toNat := by
  show (BitVec.ofInt 32 a).toNat = _
  rw [BitVec.toNat_ofInt]; rfl
theorem bcu_0 {a : Int} {n : Nat} (ra : -2147483648 ≤ a ∧ a ≤ 2147483647) (hn : n ≤ 8) : bcu (iI a) (nI n) = 0 ↔ (0 ≤ a ∧ a < 2 ^ n) := by
  have e0 : ∀ w : UInt32, w.toInt32 = 0 ↔ w.toNat = 0 := fun w => by
    constructor
    · intro y
      have : w = 0 := congrArg Int32.toUInt32 y
      rw [this]; rfl
    · intro y
      have : w = 0 := UInt32.toNat_inj.mp y
      rw [this]; rfl
  have e2 : ((nI n).toUInt32 &&& Int32.toUInt32 31).toNat = n := by
    have : ∀ n, n ≤ 8 → ((nI n).toUInt32 &&& Int32.toUInt32 31).toNat = n := by decide +kernel
    exact this n hn
  unfold bcu
  rw [e0, UInt32.toNat_shiftRight, e2, Nat.mod_eq_of_lt (by omega), Nat.shiftRight_eq_div_pow, u32_of, Nat.div_eq_zero_iff]
  have p1 : (2 : Nat) ^ n ≤ 256 := Nat.le_trans (Nat.pow_le_pow_right (by decide) hn) (by decide)
  have p2 : 0 < (2 : Nat) ^ n := Nat.two_pow_pos n
  have p3 : ((2 ^ n : Nat) : Int) = (2 : Int) ^ n := by push_cast; rfl
  rw [← p3]
  omega
theorem x_bc_0 {a : Int} (ha : 0 ≤ a) (hb : a < 256) : x_bc (iI a) = 0 ↔ a = 0 := by
  have k : ∀ n, n < 256 → (x_bc (nI n) = 0 ↔ n = 0) := by decide +kernel
  have q := k a.toNat (by omega)
  rw [nI_iI, Int.toNat_of_nonneg ha] at q
  rw [q]; omega
/-- not a NaN: the bits of an encoding -/
theorem nn_asm {s : Bool} {e t : Nat} (h : e * 4503599627370496 + t ≤ 9218868437227405312) : vf_n64 (.ofNat (FP.Core.assemble FP.Core.b64 s e t)) := by
  have e1 : FP.Core.assemble FP.Core.b64 s e t = s.toNat * 9223372036854775808 + (e * 4503599627370496 + t) := by
    show (s.toNat * 2048 + e) * 4503599627370496 + t = _
    omega
  rw [e1]
  have hz : ∃ z, z = e * 4503599627370496 + t := ⟨_, rfl⟩
  obtain ⟨z, hz⟩ := hz
  rw [← hz] at h ⊢
  clear hz e1
  have sb : s.toNat ≤ 1 := by cases s <;> decide
  unfold vf_n64
  rw [UInt64.le_iff_toNat_le, UInt64.toNat_and, UInt64.toNat_ofNat']
  show _ &&& (2 ^ 63 - 1) ≤ 9218868437227405312
  rw [Nat.and_two_pow_sub_one_eq_mod]
  omega
theorem nn_fin {s : Bool} {c : Nat} {q : Int} (hc : c < 9007199254740992) (hq : q ≤ 971) : vf_n64 (.ofNat (FP.Core.encode FP.Core.b64 (.fin s c q))) := by
  show vf_n64 (.ofNat (if c < 4503599627370496 then FP.Core.assemble FP.Core.b64 s 0 c else FP.Core.assemble FP.Core.b64 s ((q - (-1074)).toNat + 1) (c - 4503599627370496)))
  split
  · exact nn_asm (by omega)
  · exact nn_asm (by omega)
theorem nn_inf {s : Bool} : vf_n64 (.ofNat (FP.Core.encode FP.Core.b64 (.inf s))) := nn_asm (s := s) (e := 2047) (t := 0) (by decide)
theorem nn_bound {s : Bool} {c : Nat} {q : Int} (hc : c < 9007199254740992) : vf_n64 (.ofNat (FP.Core.encode FP.Core.b64 (FP.Core.bound FP.Core.b64 s c q))) := by
  unfold FP.Core.bound
  split
  · next h => exact nn_fin hc h
  · exact nn_inf
theorem nn_ratio {s : Bool} {n d : Nat} {e : Int} : vf_n64 (.ofNat (FP.Core.encode FP.Core.b64 (FP.Core.roundRatio FP.Core.b64 s n d e))) := by
  unfold FP.Core.roundRatio
  split
  · exact nn_fin (by decide) (by decide)
  · unfold FP.Core.roundAt FP.Core.settle
    split
    · next h => exact nn_bound h
    · exact nn_bound (c := FP.Core.b64.tails) (by decide)
theorem nn_i2d (x : Int32) : vf_n64 (FP.i2d x) := by
  show vf_n64 (.ofNat (FP.Core.encode FP.Core.b64 (FP.Core.roundRatio FP.Core.b64 _ _ 1 0)))
  exact nn_ratio
theorem nn_dec {r : UInt64} (h : vf_n64 r) : FP.Core.decode FP.Core.b64 r.toNat ≠ .nan := by
  unfold vf_n64 at h
  rw [UInt64.le_iff_toNat_le, UInt64.toNat_and] at h
  have h : r.toNat &&& (2 ^ 63 - 1) ≤ 9218868437227405312 := h
  rw [Nat.and_two_pow_sub_one_eq_mod] at h
  show (if r.toNat / 4503599627370496 % 2048 = 2047 then (if r.toNat % 4503599627370496 = 0 then FP.Core.Datum.inf (FP.Core.fieldS FP.Core.b64 r.toNat) else .nan) else if r.toNat / 4503599627370496 % 2048 = 0 then _ else _) ≠ .nan
  split
  · next e1 =>
    split
    · exact fun y => by cases y
    · next e2 => omega
  · split <;> exact fun y => by cases y
def nn_ok : FP.Core.Datum → Bool
  | .fin _ c _ => c != 0
  | _ => false
theorem nn_ddiv {x y : UInt64} (hx : vf_n64 x) (hy : nn_ok (FP.Core.decode FP.Core.b64 y.toNat) = true) : vf_n64 (FP.ddiv x y) := by
  have hx := nn_dec hx
  show vf_n64 (.ofNat (FP.Core.encode FP.Core.b64 (FP.Core.quotient FP.Core.b64 (FP.Core.decode FP.Core.b64 x.toNat) (FP.Core.decode FP.Core.b64 y.toNat))))
  generalize FP.Core.decode FP.Core.b64 x.toNat = a at *
  generalize FP.Core.decode FP.Core.b64 y.toNat = b at *
  cases b with
  | nan => cases hy
  | inf s => cases hy
  | fin t d r =>
    have hd : d ≠ 0 := by simpa [nn_ok] using hy
    cases a with
    | nan => exact absurd rfl hx
    | inf s => exact nn_inf
    | fin s c q =>
      show vf_n64 (.ofNat (FP.Core.encode FP.Core.b64 (if d = 0 then _ else FP.Core.roundRatio FP.Core.b64 (s != t) c d (q - r))))
      rw [if_neg hd]
      exact nn_ratio
theorem nn_bc {a : Int} (ha : 0 < a) (hb : a < 256) : nn_ok (FP.Core.decode FP.Core.b64 (FP.i2d (x_bc (iI a))).toNat) = true := by
  have k : ∀ n, n < 256 → 0 < n → nn_ok (FP.Core.decode FP.Core.b64 (FP.i2d (x_bc (nI n))).toNat) = true := by decide +kernel
  have q := k a.toNat (by omega) (by omega)
  rwa [nI_iI, Int.toNat_of_nonneg (by omega)] at q
def x_avg (A : Ab) (a : Int) : UInt64 := FP.ddiv (FP.i2d (iI (s_psum A (iI a) A.1))) (FP.i2d (x_bc (iI a)))
theorem x_avg_nn {A : Ab} {a : Int} (ha : 0 < a) (hb : a < 256) : vf_n64 (x_avg A a) := nn_ddiv (nn_i2d _) (nn_bc ha hb)
theorem pow_8 {n : Nat} (hn : n ≤ 8) : (2 : Int) ^ n ≤ 256 := by
  have p1 : (2 : Nat) ^ n ≤ 256 := Nat.le_trans (Nat.pow_le_pow_right (by decide) hn) (by decide)
  have p3 : ((2 ^ n : Nat) : Int) = (2 : Int) ^ n := by push_cast; rfl
  omega
def k_avg (A : Ab) (a : Int) : Nat := if ¬ (0 ≤ a ∧ a < 2 ^ A.1) then 1 else if a = 0 then 2 else 0
set_option maxRecDepth 100000 in
theorem mX5_averagePoints {l : Launch} {G : ux_G} {h : ux_H} {a : Int} {A : Ab} {P : Nat} (hC : rC 0 A h) (hI : Inv P A) (hJ : InvF A) (ra : -2147483648 ≤ a ∧ a ≤ 2147483647) : ux_M l G yX5_averagePoints iX5_averagePoints 5 1 [.ref 176, .int (iI a)] h (fun v h' => v = some (.double (x_avg A a)) ∧ h' = h ∧ k_avg A a = 0) (fun E h' => h' = h ∧ xc (k_avg A a) ["java/lang/IllegalArgumentException", "java/lang/ArithmeticException"] E) := by
  refine ux_ent (L' := [some (.ref 176), some (.int (iI a)), none]) kX5_averagePoints rfl rfl rfl rfl ?_
  obtain ⟨i1, i2, i3, i4, i5, i6⟩ := id hI
  refine g_iload_n dX5_averagePoints_0 rfl ?_
  refine g_aload_n dX5_averagePoints_1 rfl ?_
  refine g_getr (q := 0) fX5_10 dX5_averagePoints_2 rfl rfl rfl ?_
  refine g_geti fX5_74 dX5_averagePoints_5 rfl rfl ?_
  refine g_top hC.1 ?_
  refine g_iushr dX5_averagePoints_8 rfl ?_
  refine g_top (y := bcu (iI a) (nI A.1)) rfl ?_
  refine g_if_eq (tgt := 23) dX5_averagePoints_9 (by decide) (fun c9 => ?_) (fun c9 => ?_)
  · have q9 := (bcu_0 ra i1).mp c9
    have p8 := pow_8 i1
    refine g_iload_n dX5_averagePoints_23 rfl ?_
    refine f1_S (u' := 0) lX5_343 kJ6_bitCount_0f7a4 (mJ6_bitCount_0f7a4) dX5_averagePoints_24 rfl rfl rfl rfl rfl rfl ?_
    refine s_i (i := 2) dX5_averagePoints_27 rfl rfl rfl rfl ?_
    dsimp only [List.set]
    refine g_iload_n dX5_averagePoints_28 rfl ?_
    refine g_if_ne (tgt := 43) dX5_averagePoints_29 (by decide) (fun c29 => ?_) (fun c29 => ?_)
    · have q29 : a ≠ 0 := fun y => c29 ((x_bc_0 (by omega) (by omega)).mpr y)
      refine g_aload_n dX5_averagePoints_43 rfl ?_
      refine g_getr (q := 0) fX5_10 dX5_averagePoints_44 rfl rfl rfl ?_
      refine g_iload_n dX5_averagePoints_47 rfl ?_
      refine f1_VN (u' := 0) lX5_353 kX4_pointsOfAll (mX4_pointsOfAll hC hI) dX5_averagePoints_48 rfl rfl rfl rfl rfl rfl rfl rfl ?_
      refine g_i2d dX5_averagePoints_51 ?_
      refine g_iload_n dX5_averagePoints_52 rfl ?_
      refine g_i2d dX5_averagePoints_53 ?_
      refine g_ddiv dX5_averagePoints_54 (x_avg_nn (A := A) (by omega) (by omega)) ?_
      refine g_dreturn dX5_averagePoints_55 rfl (by decide) ?_
      exact ⟨rfl, rfl, by unfold k_avg; rw [if_neg (by omega), if_neg q29]⟩
    · have q29 : a = 0 := (x_bc_0 (by omega) (by omega)).mp c29
      refine g_throwW tX5_350_352 dX5_averagePoints_32 dX5_averagePoints_35 dX5_averagePoints_36 dX5_averagePoints_39 dX5_averagePoints_42 rfl rfl (by decide) ?_
      exact ⟨rfl, xc_mk (k := 2) (by unfold k_avg; rw [if_neg (by omega), if_pos q29]) (by decide) rfl⟩
  · have q9 := (not_congr (bcu_0 ra i1)).mp c9
    refine g_throwW tX5_341_133 dX5_averagePoints_12 dX5_averagePoints_15 dX5_averagePoints_16 dX5_averagePoints_19 dX5_averagePoints_22 rfl rfl (by decide) ?_
    exact ⟨rfl, xc_mk (k := 1) (by unfold k_avg; rw [if_pos q9]) (by decide) rfl⟩
