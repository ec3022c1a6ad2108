/-! THE ROWS OF THE UNIFORM WORLD: an instruction, a row. -/
section UXR
variable {l : Launch} {G : ux_G} {mi : ux_I} {R : Room} {Z : ux_Zt} {pc : Nat} {L : List (Option Value)} {st : List Value} {h : ux_H} {u : Nat}
theorem g_at {pc' : Nat} (e : pc' = pc) (n : ux_W l G mi R Z pc' L st h u) : ux_W l G mi R Z pc L st h u := e ▸ n
theorem g_widen {k : Nat} (hk : u ≤ k) (n : ux_W l G mi R Z pc L st h k) : ux_W l G mi R Z pc L st h u := by
  intro p e s m args below meth c H locs ls C hH hS hl
  exact W.widen hk (by omega) (n p e s m args below meth c H locs ls C hH hS hl)
theorem g_iconst {n : Int} {v : Int32} (d : decode mi.1 pc = .ok (.iconst n, 1)) (hv : Int32.ofInt n = v) (k : ux_W l G mi R Z (pc + 1) L (.int v :: st) h u) : ux_W l G mi R Z pc L st h u := by
  intro p e s m args below meth c H locs ls C hH hS hl
  exact lv_iconst C.1 C.2.1 d hv (k p e s m args below meth c H locs ls C hH hS hl)
theorem g_bipush {n : Int} {v : Int32} (d : decode mi.1 pc = .ok (.bipush n, 2)) (hv : (Int8.ofInt n).toInt32 = v) (k : ux_W l G mi R Z (pc + 2) L (.int v :: st) h u) : ux_W l G mi R Z pc L st h u := by
  intro p e s m args below meth c H locs ls C hH hS hl
  exact lv_bipush C.1 C.2.1 d hv (k p e s m args below meth c H locs ls C hH hS hl)
theorem g_sipush {n : Int} {v : Int32} (d : decode mi.1 pc = .ok (.sipush n, 3)) (hv : (Int16.ofInt n).toInt32 = v) (k : ux_W l G mi R Z (pc + 3) L (.int v :: st) h u) : ux_W l G mi R Z pc L st h u := by
  intro p e s m args below meth c H locs ls C hH hS hl
  exact lv_sipush C.1 C.2.1 d hv (k p e s m args below meth c H locs ls C hH hS hl)
theorem g_iload_n {k : Fin 4} {x : Int32} (d : decode mi.1 pc = .ok (.iload_n k, 1)) (hL : L[(k : Nat)]? = some (some (.int x))) (n : ux_W l G mi R Z (pc + 1) L (.int x :: st) h u) : ux_W l G mi R Z pc L st h u := by
  intro p e s m args below meth c H locs ls C hH hS hl
  exact lv_iload_n C.1 C.2.1 d rfl (ux_at hl hL) (n p e s m args below meth c H locs ls C hH hS hl)
theorem g_iload {i : Nat} {x : Int32} (d : decode mi.1 pc = .ok (.iload i, 2)) (hL : L[i]? = some (some (.int x))) (n : ux_W l G mi R Z (pc + 2) L (.int x :: st) h u) : ux_W l G mi R Z pc L st h u := by
  intro p e s m args below meth c H locs ls C hH hS hl
  exact lv_iload C.1 C.2.1 d (ux_at hl hL) (n p e s m args below meth c H locs ls C hH hS hl)
theorem g_dload {i : Nat} {x : UInt64} (d : decode mi.1 pc = .ok (.dload i, 2)) (hL : L[i]? = some (some (.double x))) (n : ux_W l G mi R Z (pc + 2) L (.double x :: st) h u) : ux_W l G mi R Z pc L st h u := by
  intro p e s m args below meth c H locs ls C hH hS hl
  exact lv_dload C.1 C.2.1 d (ux_at hl hL) (n p e s m args below meth c H locs ls C hH hS hl)
theorem g_aload_n {k : Fin 4} {x : Nat} (d : decode mi.1 pc = .ok (.aload_n k, 1)) (hL : L[(k : Nat)]? = some (some (.ref x))) (n : ux_W l G mi R Z (pc + 1) L (.ref x :: st) h u) : ux_W l G mi R Z pc L st h u := by
  intro p e s m args below meth c H locs ls C hH hS hl
  exact lv_aload_n C.1 C.2.1 d rfl (ux_at hl hL) (n p e s m args below meth c H locs ls C hH hS hl)
theorem g_aload {i : Nat} {x : Nat} (d : decode mi.1 pc = .ok (.aload i, 2)) (hL : L[i]? = some (some (.ref x))) (n : ux_W l G mi R Z (pc + 2) L (.ref x :: st) h u) : ux_W l G mi R Z pc L st h u := by
  intro p e s m args below meth c H locs ls C hH hS hl
  exact lv_aload C.1 C.2.1 d (ux_at hl hL) (n p e s m args below meth c H locs ls C hH hS hl)
/-- no local holds a long or double -/
def ux_one (L : List (Option Value)) : Prop := ∀ (j : Nat) (w : Value), L[j]? = some (some w) → w.category = 1
theorem ux_one_nil : ux_one [] := fun j w q => by simp at q
theorem ux_one_n {L : List (Option Value)} (q : ux_one L) : ux_one (none :: L) := fun j w z => by
  cases j with
  | zero => simp at z
  | succ j => exact q j w (by simpa using z)
theorem ux_one_c {L : List (Option Value)} {v : Value} (hv : v.category = 1) (q : ux_one L) : ux_one (some v :: L) := fun j w z => by
  cases j with
  | zero =>
    have e : v = w := by simpa using z
    rw [← e]; exact hv
  | succ j => exact q j w (by simpa using z)
theorem ux_one_set {L : List (Option Value)} {v : Value} {i : Nat} (hv : v.category = 1) (q : ux_one L) : ux_one (L.set i (some v)) := fun j w z => by
  rw [List.getElem?_set] at z
  split at z
  · split at z
    · have e : v = w := by simpa using z
      rw [← e]; exact hv
    · cases z
  · exact q j w z
theorem g_istore_n {k : Fin 4} {x : Int32} (d : decode mi.1 pc = .ok (.istore_n k, 1)) (h1 : ux_one L) (hk : (k : Nat) < mi.2.1) (n : ux_W l G mi R Z (pc + 1) (L.set k (some (.int x))) st h u) : ux_W l G mi R Z pc L (.int x :: st) h u := by
  intro p e s m args below meth c H locs ls C hH hS hl
  exact lv_istore_n C.1 C.2.1 d rfl hl hk rfl (fun ls' hl' => n p e s m args below meth c H locs ls' C hH hS (ux_set1 (fun j w _ q => h1 j w q) hl'))
theorem g_istore {i : Nat} {x : Int32} (d : decode mi.1 pc = .ok (.istore i, 2)) (h1 : ux_one L) (hk : i < mi.2.1) (n : ux_W l G mi R Z (pc + 2) (L.set i (some (.int x))) st h u) : ux_W l G mi R Z pc L (.int x :: st) h u := by
  intro p e s m args below meth c H locs ls C hH hS hl
  exact lv_istore C.1 C.2.1 d hl hk rfl (fun ls' hl' => n p e s m args below meth c H locs ls' C hH hS (ux_set1 (fun j w _ q => h1 j w q) hl'))
theorem g_astore_n {k : Fin 4} {x : Nat} (d : decode mi.1 pc = .ok (.astore_n k, 1)) (h1 : ux_one L) (hk : (k : Nat) < mi.2.1) (n : ux_W l G mi R Z (pc + 1) (L.set k (some (.ref x))) st h u) : ux_W l G mi R Z pc L (.ref x :: st) h u := by
  intro p e s m args below meth c H locs ls C hH hS hl
  exact lv_astore_n C.1 C.2.1 d rfl hl hk rfl (fun ls' hl' => n p e s m args below meth c H locs ls' C hH hS (ux_set1 (v := .ref x) (fun j w _ q => h1 j w q) hl'))
theorem g_astore {i : Nat} {x : Nat} (d : decode mi.1 pc = .ok (.astore i, 2)) (h1 : ux_one L) (hk : i < mi.2.1) (n : ux_W l G mi R Z (pc + 2) (L.set i (some (.ref x))) st h u) : ux_W l G mi R Z pc L (.ref x :: st) h u := by
  intro p e s m args below meth c H locs ls C hH hS hl
  exact lv_astore C.1 C.2.1 d hl hk rfl (fun ls' hl' => n p e s m args below meth c H locs ls' C hH hS (ux_set1 (v := .ref x) (fun j w _ q => h1 j w q) hl'))
theorem ux_iinc_at {L : List (Option Value)} {G : ux_G} {i : Nat} {x : Int32} (hL : L[i]? = some (some (.int x))) : ∃ k : Nat, (ux_lv G 0 L)[k]? = some (i, .int x) := by
  have hm : (i, ux_cv G (.int x)) ∈ ux_lv G 0 L := (ux_lv_mem L 0 i _).mpr ⟨i, _, by omega, hL, rfl⟩
  exact List.getElem?_of_mem hm
theorem g_iinc {i : Nat} {z : Int} {x v : Int32} (d : decode mi.1 pc = .ok (.iinc i z, 3)) (hL : L[i]? = some (some (.int x))) (hv : x + Int32.ofInt z = v) (h1 : ux_one L) (hk : i < mi.2.1) (n : ux_W l G mi R Z (pc + 3) (L.set i (some (.int v))) st h u) : ux_W l G mi R Z pc L st h u := by
  intro p e s m args below meth c H locs ls C hH hS hl
  obtain ⟨k, hk2⟩ := ux_iinc_at (G := G) hL
  exact lv_iinc C.1 C.2.1 d hl hk2 hv hk rfl (fun ls' hl' => n p e s m args below meth c H locs ls' C hH hS (ux_set1 (v := .int v) (fun j w _ q => h1 j w q) hl'))
theorem g_iadd {x y : Int32} (d : decode mi.1 pc = .ok (.iadd, 1)) (k : ux_W l G mi R Z (pc + 1) L (.int (x + y) :: st) h u) : ux_W l G mi R Z pc L (.int y :: .int x :: st) h u := by
  intro p e s m args below meth c H locs ls C hH hS hl
  exact lv_iadd C.1 C.2.1 d (k p e s m args below meth c H locs ls C hH hS hl)
theorem g_isub {x y : Int32} (d : decode mi.1 pc = .ok (.isub, 1)) (k : ux_W l G mi R Z (pc + 1) L (.int (x - y) :: st) h u) : ux_W l G mi R Z pc L (.int y :: .int x :: st) h u := by
  intro p e s m args below meth c H locs ls C hH hS hl
  exact lv_isub C.1 C.2.1 d (k p e s m args below meth c H locs ls C hH hS hl)
theorem g_imul {x y : Int32} (d : decode mi.1 pc = .ok (.imul, 1)) (k : ux_W l G mi R Z (pc + 1) L (.int (x * y) :: st) h u) : ux_W l G mi R Z pc L (.int y :: .int x :: st) h u := by
  intro p e s m args below meth c H locs ls C hH hS hl
  exact lv_imul C.1 C.2.1 d (k p e s m args below meth c H locs ls C hH hS hl)
theorem g_iand {x y : Int32} (d : decode mi.1 pc = .ok (.iand, 1)) (k : ux_W l G mi R Z (pc + 1) L (.int (x &&& y) :: st) h u) : ux_W l G mi R Z pc L (.int y :: .int x :: st) h u := by
  intro p e s m args below meth c H locs ls C hH hS hl
  exact lv_iand C.1 C.2.1 d (k p e s m args below meth c H locs ls C hH hS hl)
theorem g_ior {x y : Int32} (d : decode mi.1 pc = .ok (.ior, 1)) (k : ux_W l G mi R Z (pc + 1) L (.int (x ||| y) :: st) h u) : ux_W l G mi R Z pc L (.int y :: .int x :: st) h u := by
  intro p e s m args below meth c H locs ls C hH hS hl
  exact lv_ior C.1 C.2.1 d (k p e s m args below meth c H locs ls C hH hS hl)
theorem g_ixor {x y : Int32} (d : decode mi.1 pc = .ok (.ixor, 1)) (k : ux_W l G mi R Z (pc + 1) L (.int (x ^^^ y) :: st) h u) : ux_W l G mi R Z pc L (.int y :: .int x :: st) h u := by
  intro p e s m args below meth c H locs ls C hH hS hl
  exact lv_ixor C.1 C.2.1 d (k p e s m args below meth c H locs ls C hH hS hl)
theorem g_ishl {x y : Int32} (d : decode mi.1 pc = .ok (.ishl, 1)) (k : ux_W l G mi R Z (pc + 1) L (.int (x <<< (y &&& 31)) :: st) h u) : ux_W l G mi R Z pc L (.int y :: .int x :: st) h u := by
  intro p e s m args below meth c H locs ls C hH hS hl
  exact lv_ishl C.1 C.2.1 d (k p e s m args below meth c H locs ls C hH hS hl)
theorem g_ishr {x y : Int32} (d : decode mi.1 pc = .ok (.ishr, 1)) (k : ux_W l G mi R Z (pc + 1) L (.int (x >>> (y &&& 31)) :: st) h u) : ux_W l G mi R Z pc L (.int y :: .int x :: st) h u := by
  intro p e s m args below meth c H locs ls C hH hS hl
  exact lv_ishr C.1 C.2.1 d (k p e s m args below meth c H locs ls C hH hS hl)
theorem g_iushr {x y v : Int32} (d : decode mi.1 pc = .ok (.iushr, 1)) (hv : (x.toUInt32 >>> (y.toUInt32 &&& Int32.toUInt32 31)).toInt32 = v) (k : ux_W l G mi R Z (pc + 1) L (.int v :: st) h u) : ux_W l G mi R Z pc L (.int y :: .int x :: st) h u := by
  intro p e s m args below meth c H locs ls C hH hS hl
  exact lv_iushr C.1 C.2.1 d hv (k p e s m args below meth c H locs ls C hH hS hl)
theorem g_idiv {x y : Int32} (d : decode mi.1 pc = .ok (.idiv, 1)) (hy : ¬ y = 0) (k : ux_W l G mi R Z (pc + 1) L (.int (x / y) :: st) h u) : ux_W l G mi R Z pc L (.int y :: .int x :: st) h u := by
  intro p e s m args below meth c H locs ls C hH hS hl
  exact lv_idiv C.1 C.2.1 d hy (k p e s m args below meth c H locs ls C hH hS hl)
theorem g_irem {x y : Int32} (d : decode mi.1 pc = .ok (.irem, 1)) (hy : ¬ y = 0) (k : ux_W l G mi R Z (pc + 1) L (.int (x - x / y * y) :: st) h u) : ux_W l G mi R Z pc L (.int y :: .int x :: st) h u := by
  intro p e s m args below meth c H locs ls C hH hS hl
  exact lv_irem C.1 C.2.1 d hy (k p e s m args below meth c H locs ls C hH hS hl)
theorem g_ineg {x : Int32} (d : decode mi.1 pc = .ok (.ineg, 1)) (k : ux_W l G mi R Z (pc + 1) L (.int (-x) :: st) h u) : ux_W l G mi R Z pc L (.int x :: st) h u := by
  intro p e s m args below meth c H locs ls C hH hS hl
  exact lv_ineg C.1 C.2.1 d (k p e s m args below meth c H locs ls C hH hS hl)
theorem g_i2c {x v : Int32} (d : decode mi.1 pc = .ok (.i2c, 1)) (hv : (x.toUInt32 % 65536).toInt32 = v) (k : ux_W l G mi R Z (pc + 1) L (.int v :: st) h u) : ux_W l G mi R Z pc L (.int x :: st) h u := by
  intro p e s m args below meth c H locs ls C hH hS hl
  exact lv_i2c C.1 C.2.1 d hv (k p e s m args below meth c H locs ls C hH hS hl)
theorem g_i2l {x : Int32} (d : decode mi.1 pc = .ok (.i2l, 1)) (k : ux_W l G mi R Z (pc + 1) L (.long x.toInt64 :: st) h u) : ux_W l G mi R Z pc L (.int x :: st) h u := by
  intro p e s m args below meth c H locs ls C hH hS hl
  exact lv_i2l C.1 C.2.1 d rfl (k p e s m args below meth c H locs ls C hH hS hl)
theorem g_i2d {x : Int32} (d : decode mi.1 pc = .ok (.i2d, 1)) (k : ux_W l G mi R Z (pc + 1) L (.double (FP.i2d x) :: st) h u) : ux_W l G mi R Z pc L (.int x :: st) h u := by
  intro p e s m args below meth c H locs ls C hH hS hl
  exact lv_i2d C.1 C.2.1 d (k p e s m args below meth c H locs ls C hH hS hl)
theorem g_ddiv {x y : UInt64} (d : decode mi.1 pc = .ok (.ddiv, 1)) (hn : vf_n64 (FP.ddiv x y)) (k : ux_W l G mi R Z (pc + 1) L (.double (FP.ddiv x y) :: st) h u) : ux_W l G mi R Z pc L (.double y :: .double x :: st) h u := by
  intro p e s m args below meth c H locs ls C hH hS hl
  exact lv_ddiv C.1 C.2.1 d hn (k p e s m args below meth c H locs ls C hH hS hl)
theorem g_dcmp {x y : UInt64} {op : CmpOp} (d : decode mi.1 pc = .ok (.dcmp op, 1)) (k : ux_W l G mi R Z (pc + 1) L (.int (Op.cmpValue (FP.dcmp x y) op) :: st) h u) : ux_W l G mi R Z pc L (.double y :: .double x :: st) h u := by
  intro p e s m args below meth c H locs ls C hH hS hl
  exact lv_dcmp C.1 C.2.1 d (k p e s m args below meth c H locs ls C hH hS hl)
theorem g_lcmp {x y : Int64} (d : decode mi.1 pc = .ok (.lcmp, 1)) (k : ux_W l G mi R Z (pc + 1) L (.int (lg_cmp x y) :: st) h u) : ux_W l G mi R Z pc L (.long y :: .long x :: st) h u := by
  intro p e s m args below meth c H locs ls C hH hS hl
  exact W.lcmp C.1 C.2.1 d (k p e s m args below meth c H locs ls C hH hS hl)
theorem g_dup {v : Value} (d : decode mi.1 pc = .ok (.dup, 1)) (hv : v.category = 1) (k : ux_W l G mi R Z (pc + 1) L (v :: v :: st) h u) : ux_W l G mi R Z pc L (v :: st) h u := by
  intro p e s m args below meth c H locs ls C hH hS hl
  exact lv_dup C.1 C.2.1 d (by rw [ux_cv_cat]; exact hv) (k p e s m args below meth c H locs ls C hH hS hl)
theorem g_dup2 {v w : Value} (d : decode mi.1 pc = .ok (.dup2, 1)) (hv : v.category = 1) (hw : w.category = 1) (k : ux_W l G mi R Z (pc + 1) L (v :: w :: v :: w :: st) h u) : ux_W l G mi R Z pc L (v :: w :: st) h u := by
  intro p e s m args below meth c H locs ls C hH hS hl
  exact lv_dup2_11 C.1 C.2.1 d (by rw [ux_cv_cat]; exact hv) (by rw [ux_cv_cat]; exact hw) (k p e s m args below meth c H locs ls C hH hS hl)
theorem g_dup_x1 {v w : Value} (d : decode mi.1 pc = .ok (.dup_x1, 1)) (hv : v.category = 1) (hw : w.category = 1) (k : ux_W l G mi R Z (pc + 1) L (v :: w :: v :: st) h u) : ux_W l G mi R Z pc L (v :: w :: st) h u := by
  intro p e s m args below meth c H locs ls C hH hS hl
  exact lv_dup_x1 C.1 C.2.1 d (by rw [ux_cv_cat]; exact hv) (by rw [ux_cv_cat]; exact hw) (k p e s m args below meth c H locs ls C hH hS hl)
theorem g_dup_x2 {v w z : Value} (d : decode mi.1 pc = .ok (.dup_x2, 1)) (hv : v.category = 1) (hw : w.category = 1) (hz : z.category = 1) (k : ux_W l G mi R Z (pc + 1) L (v :: w :: z :: v :: st) h u) : ux_W l G mi R Z pc L (v :: w :: z :: st) h u := by
  intro p e s m args below meth c H locs ls C hH hS hl
  exact lv_dup_x2 C.1 C.2.1 d (by rw [ux_cv_cat]; exact hv) (by rw [ux_cv_cat]; exact hw) (by rw [ux_cv_cat]; exact hz) (k p e s m args below meth c H locs ls C hH hS hl)
theorem g_pop {v : Value} (d : decode mi.1 pc = .ok (.pop, 1)) (hv : v.category = 1) (k : ux_W l G mi R Z (pc + 1) L st h u) : ux_W l G mi R Z pc L (v :: st) h u := by
  intro p e s m args below meth c H locs ls C hH hS hl
  exact lv_pop C.1 C.2.1 d (by rw [ux_cv_cat]; exact hv) (k p e s m args below meth c H locs ls C hH hS hl)
theorem g_goto {off : Int} {tgt : Nat} (d : decode mi.1 pc = .ok (.goto off, 3)) (ht : (pc : Int) + off = (tgt : Int)) (k : ux_W l G mi R Z tgt L st h u) : ux_W l G mi R Z pc L st h u := by
  intro p e s m args below meth c H locs ls C hH hS hl
  exact lv_goto C.1 C.2.1 d ht (k p e s m args below meth c H locs ls C hH hS hl)
theorem g_if_eq {x : Int32} {off : Int} {tgt : Nat} (d : decode mi.1 pc = .ok (.ifCond .eq off, 3)) (ht : (pc : Int) + off = (tgt : Int)) (kt : x = 0 → ux_W l G mi R Z tgt L st h u) (kf : ¬ x = 0 → ux_W l G mi R Z (pc + 3) L st h u) : ux_W l G mi R Z pc L (.int x :: st) h u := by
  intro p e s m args below meth c H locs ls C hH hS hl
  exact lv_if_eq C.1 C.2.1 d ht (fun q => kt q p e s m args below meth c H locs ls C hH hS hl) (fun q => kf q p e s m args below meth c H locs ls C hH hS hl)
theorem g_if_ne {x : Int32} {off : Int} {tgt : Nat} (d : decode mi.1 pc = .ok (.ifCond .ne off, 3)) (ht : (pc : Int) + off = (tgt : Int)) (kt : ¬ x = 0 → ux_W l G mi R Z tgt L st h u) (kf : x = 0 → ux_W l G mi R Z (pc + 3) L st h u) : ux_W l G mi R Z pc L (.int x :: st) h u := by
  intro p e s m args below meth c H locs ls C hH hS hl
  exact lv_if_ne C.1 C.2.1 d ht (fun q => kt q p e s m args below meth c H locs ls C hH hS hl) (fun q => kf q p e s m args below meth c H locs ls C hH hS hl)
theorem g_if_lt {x : Int32} {off : Int} {tgt : Nat} (d : decode mi.1 pc = .ok (.ifCond .lt off, 3)) (ht : (pc : Int) + off = (tgt : Int)) (kt : x < 0 → ux_W l G mi R Z tgt L st h u) (kf : ¬ x < 0 → ux_W l G mi R Z (pc + 3) L st h u) : ux_W l G mi R Z pc L (.int x :: st) h u := by
  intro p e s m args below meth c H locs ls C hH hS hl
  exact lv_if_lt C.1 C.2.1 d ht (fun q => kt q p e s m args below meth c H locs ls C hH hS hl) (fun q => kf q p e s m args below meth c H locs ls C hH hS hl)
theorem g_if_gt {x : Int32} {off : Int} {tgt : Nat} (d : decode mi.1 pc = .ok (.ifCond .gt off, 3)) (ht : (pc : Int) + off = (tgt : Int)) (kt : 0 < x → ux_W l G mi R Z tgt L st h u) (kf : ¬ 0 < x → ux_W l G mi R Z (pc + 3) L st h u) : ux_W l G mi R Z pc L (.int x :: st) h u := by
  intro p e s m args below meth c H locs ls C hH hS hl
  exact lv_if_gt C.1 C.2.1 d ht (fun q => kt q p e s m args below meth c H locs ls C hH hS hl) (fun q => kf q p e s m args below meth c H locs ls C hH hS hl)
theorem g_if_le {x : Int32} {off : Int} {tgt : Nat} (d : decode mi.1 pc = .ok (.ifCond .le off, 3)) (ht : (pc : Int) + off = (tgt : Int)) (kt : x ≤ 0 → ux_W l G mi R Z tgt L st h u) (kf : ¬ x ≤ 0 → ux_W l G mi R Z (pc + 3) L st h u) : ux_W l G mi R Z pc L (.int x :: st) h u := by
  intro p e s m args below meth c H locs ls C hH hS hl
  exact lv_if_le C.1 C.2.1 d ht (fun q => kt q p e s m args below meth c H locs ls C hH hS hl) (fun q => kf q p e s m args below meth c H locs ls C hH hS hl)
theorem g_if_ge {x : Int32} {off : Int} {tgt : Nat} (d : decode mi.1 pc = .ok (.ifCond .ge off, 3)) (ht : (pc : Int) + off = (tgt : Int)) (kt : 0 ≤ x → ux_W l G mi R Z tgt L st h u) (kf : ¬ 0 ≤ x → ux_W l G mi R Z (pc + 3) L st h u) : ux_W l G mi R Z pc L (.int x :: st) h u := by
  intro p e s m args below meth c H locs ls C hH hS hl
  exact lv_if_ge C.1 C.2.1 d ht (fun q => kt q p e s m args below meth c H locs ls C hH hS hl) (fun q => kf q p e s m args below meth c H locs ls C hH hS hl)
theorem g_icmp_eq {x y : Int32} {off : Int} {tgt : Nat} (d : decode mi.1 pc = .ok (.if_icmp .eq off, 3)) (ht : (pc : Int) + off = (tgt : Int)) (kt : x = y → ux_W l G mi R Z tgt L st h u) (kf : ¬ x = y → ux_W l G mi R Z (pc + 3) L st h u) : ux_W l G mi R Z pc L (.int y :: .int x :: st) h u := by
  intro p e s m args below meth c H locs ls C hH hS hl
  exact lv_icmp_eq C.1 C.2.1 d ht (fun q => kt q p e s m args below meth c H locs ls C hH hS hl) (fun q => kf q p e s m args below meth c H locs ls C hH hS hl)
theorem g_icmp_ne {x y : Int32} {off : Int} {tgt : Nat} (d : decode mi.1 pc = .ok (.if_icmp .ne off, 3)) (ht : (pc : Int) + off = (tgt : Int)) (kt : ¬ x = y → ux_W l G mi R Z tgt L st h u) (kf : x = y → ux_W l G mi R Z (pc + 3) L st h u) : ux_W l G mi R Z pc L (.int y :: .int x :: st) h u := by
  intro p e s m args below meth c H locs ls C hH hS hl
  exact lv_icmp_ne C.1 C.2.1 d ht (fun q => kt q p e s m args below meth c H locs ls C hH hS hl) (fun q => kf q p e s m args below meth c H locs ls C hH hS hl)
theorem g_icmp_lt {x y : Int32} {off : Int} {tgt : Nat} (d : decode mi.1 pc = .ok (.if_icmp .lt off, 3)) (ht : (pc : Int) + off = (tgt : Int)) (kt : x < y → ux_W l G mi R Z tgt L st h u) (kf : ¬ x < y → ux_W l G mi R Z (pc + 3) L st h u) : ux_W l G mi R Z pc L (.int y :: .int x :: st) h u := by
  intro p e s m args below meth c H locs ls C hH hS hl
  exact lv_icmp_lt C.1 C.2.1 d ht (fun q => kt q p e s m args below meth c H locs ls C hH hS hl) (fun q => kf q p e s m args below meth c H locs ls C hH hS hl)
theorem g_icmp_gt {x y : Int32} {off : Int} {tgt : Nat} (d : decode mi.1 pc = .ok (.if_icmp .gt off, 3)) (ht : (pc : Int) + off = (tgt : Int)) (kt : y < x → ux_W l G mi R Z tgt L st h u) (kf : ¬ y < x → ux_W l G mi R Z (pc + 3) L st h u) : ux_W l G mi R Z pc L (.int y :: .int x :: st) h u := by
  intro p e s m args below meth c H locs ls C hH hS hl
  exact lv_icmp_gt C.1 C.2.1 d ht (fun q => kt q p e s m args below meth c H locs ls C hH hS hl) (fun q => kf q p e s m args below meth c H locs ls C hH hS hl)
theorem g_icmp_le {x y : Int32} {off : Int} {tgt : Nat} (d : decode mi.1 pc = .ok (.if_icmp .le off, 3)) (ht : (pc : Int) + off = (tgt : Int)) (kt : x ≤ y → ux_W l G mi R Z tgt L st h u) (kf : ¬ x ≤ y → ux_W l G mi R Z (pc + 3) L st h u) : ux_W l G mi R Z pc L (.int y :: .int x :: st) h u := by
  intro p e s m args below meth c H locs ls C hH hS hl
  exact lv_icmp_le C.1 C.2.1 d ht (fun q => kt q p e s m args below meth c H locs ls C hH hS hl) (fun q => kf q p e s m args below meth c H locs ls C hH hS hl)
theorem g_icmp_ge {x y : Int32} {off : Int} {tgt : Nat} (d : decode mi.1 pc = .ok (.if_icmp .ge off, 3)) (ht : (pc : Int) + off = (tgt : Int)) (kt : y ≤ x → ux_W l G mi R Z tgt L st h u) (kf : ¬ y ≤ x → ux_W l G mi R Z (pc + 3) L st h u) : ux_W l G mi R Z pc L (.int y :: .int x :: st) h u := by
  intro p e s m args below meth c H locs ls C hH hS hl
  exact lv_icmp_ge C.1 C.2.1 d ht (fun q => kt q p e s m args below meth c H locs ls C hH hS hl) (fun q => kf q p e s m args below meth c H locs ls C hH hS hl)
theorem g_ifnull {x : Nat} {off : Int} (d : decode mi.1 pc = .ok (.ifnull off, 3)) (k : ux_W l G mi R Z (pc + 3) L st h u) : ux_W l G mi R Z pc L (.ref x :: st) h u := by
  intro p e s m args below meth c H locs ls C hH hS hl
  exact lv_ifnull C.1 C.2.1 d (k p e s m args below meth c H locs ls C hH hS hl)
theorem g_tableOut {dflt lo hi : Int} {offs : Array Int} {len : Nat} {x : Int32} {tgt : Nat} (d : decode mi.1 pc = .ok (.tableswitch dflt lo hi offs, len)) (hx : x.toInt < lo ∨ hi < x.toInt) (ht : (pc : Int) + dflt = (tgt : Int)) (k : ux_W l G mi R Z tgt L st h u) : ux_W l G mi R Z pc L (.int x :: st) h u := by
  intro p e s m args below meth c H locs ls C hH hS hl
  exact lv_tableOut C.1 C.2.1 d hx ht (k p e s m args below meth c H locs ls C hH hS hl)
theorem g_tableIn {dflt lo hi : Int} {offs : Array Int} {len : Nat} {x : Int32} {off : Int} {tgt : Nat} (d : decode mi.1 pc = .ok (.tableswitch dflt lo hi offs, len)) (h1 : ¬ x.toInt < lo) (h2 : ¬ hi < x.toInt) (ho : offs[(x.toInt - lo).toNat]? = some off) (ht : (pc : Int) + off = (tgt : Int)) (k : ux_W l G mi R Z tgt L st h u) : ux_W l G mi R Z pc L (.int x :: st) h u := by
  intro p e s m args below meth c H locs ls C hH hS hl
  exact lv_tableIn C.1 C.2.1 d h1 h2 ho ht (k p e s m args below meth c H locs ls C hH hS hl)
end UXR
