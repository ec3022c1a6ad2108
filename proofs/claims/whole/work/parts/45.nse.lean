/-! NoSuchElementException: her constructor hands its text on by another index of her pool than those of the other exceptions do; so her throw has rows of its own. -/
section VN
def vn_six : ByteArray := ⟨#[0x2a, 0x2b, 0xb7, 0x00, 0x0d, 0xb1]⟩
theorem vn_0 : decode vn_six 0 = .ok (.aload_n 0, 1) := by decide +kernel
theorem vn_1 : decode vn_six 1 = .ok (.aload_n 1, 1) := by decide +kernel
theorem vn_2 : decode vn_six 2 = .ok (.invokespecial 13, 3) := by decide +kernel
theorem vn_5 : decode vn_six 5 = .ok (.return_, 1) := by decide +kernel
def vn_E : String := "java/util/NoSuchElementException"
def vn_Y : String := "java/lang/RuntimeException"
def vn_r : List String := ["java/lang/Exception"]
/-- what speaks of the class that is thrown -/
def vn_rest (own : String) (ic : Nat) : List Cond :=
  [.methodLink own ic (Bundle.initS vn_E), .instantiable vn_E 6, .castable vn_E vn_E, .selects vn_E Bundle.tFill0 Bundle.tFill0, .selects vn_E Bundle.tFill Bundle.tFill,
   .lays vn_E Bundle.tN "cause" "Ljava/lang/Throwable;", .lays vn_E Bundle.tN "stackTrace" Bundle.steD, .lays vn_E Bundle.tN "suppressedExceptions" Bundle.listD, .lays vn_E Bundle.tN "detailMessage" "Ljava/lang/String;",
   .isRef (.static Bundle.tN "UNASSIGNED_STACK" Bundle.steD), .isRef (.static Bundle.tN "SUPPRESSED_SENTINEL" Bundle.listD),
   .fieldLink Bundle.tN 198 Bundle.tN "backtrace" "Ljava/lang/Object;", .lays Bundle.tN Bundle.tN "backtrace" "Ljava/lang/Object;", .lays vn_E Bundle.tN "backtrace" "Ljava/lang/Object;"]
def vn_all (own : String) (ic : Nat) : List Cond := Bundle.throwableAtoms ++ (Bundle.throwableSAtoms ++ (Bundle.passSAtoms vn_E vn_Y 13 vn_six ++ (Bundle.chainSAtoms vn_Y vn_r ++ vn_rest own ic)))
def vn_at (own : String) (ic : Nat) : List Cond := (vn_all own ic).filter vx_no
section Ctor
variable {p : Program} {l : Launch} {e : Env} {R : Room} {s : State} {m₀ : MethodId} {args : Array Value} {below : List Frame} {meth : Method} {c : Code} {T0 : State} {locs : List Loc} {cells slots : Nat}
theorem vn_a1 {own : String} {ic : Nat} {x : Cond} (h : x ∈ Bundle.throwableAtoms) : x ∈ vn_all own ic := List.mem_append_left _ h
theorem vn_a2 {own : String} {ic : Nat} {x : Cond} (h : x ∈ Bundle.throwableSAtoms) : x ∈ vn_all own ic := List.mem_append_right _ (List.mem_append_left _ h)
theorem vn_a3 {own : String} {ic : Nat} {x : Cond} (h : x ∈ Bundle.passSAtoms vn_E vn_Y 13 vn_six) : x ∈ vn_all own ic := List.mem_append_right _ (List.mem_append_right _ (List.mem_append_left _ h))
theorem vn_a4 {own : String} {ic : Nat} {x : Cond} (h : x ∈ Bundle.chainSAtoms vn_Y vn_r) : x ∈ vn_all own ic := List.mem_append_right _ (List.mem_append_right _ (List.mem_append_right _ (List.mem_append_left _ h)))
theorem vn_a5 {own : String} {ic : Nat} {x : Cond} (h : x ∈ vn_rest own ic) : x ∈ vn_all own ic := List.mem_append_right _ (List.mem_append_right _ (List.mem_append_right _ (List.mem_append_right _ h)))
set_option maxHeartbeats 2000000 in
/-- 'new', 'dup' and the text are done: the constructor, and athrow -/
theorem vn_ctor (X : Stand p l e R s m₀ args below meth c T0 locs cells slots) (hexec : p.tables.exec = Jvm.exec) (htr : e.platform.stackTraces = false) {own : String} {ic : Nat}
    (hown : s.vm.findClass own = some m₀.cls) (h : ∀ a ∈ vn_all own ic, a.before args s = true)
    (hlocs : ∀ x ∈ locs, ∀ cell, s.heap[x.base]? = some cell → cell.vm.isStatics = false)
    {a : Addr} {cX : ClassId} {kX : Class} (hfoundX : s.vm.findClass vn_E = some cX) (hkX : s.vm.classes[cX]? = some kX) (hcell : T0.heap[a]? = some (freshCell cX kX)) (hnew : s.heap.size ≤ a)
    {msg : Value} (hmsg : msg.isRef = true)
    {g : JFrame} (hg : g.method = m₀) (hsize : g.locals.size = c.maxLocals) (hlocked : g.locked = none) (hentered : g.entered = []) {rest : List Value} (hstack : g.stack = msg :: .ref a :: .ref a :: rest)
    (hd6 : decode c.code g.pc = .ok (.invokespecial ic, 3)) (hd9 : decode c.code (g.pc + 3) = .ok (.athrow, 1)) (hout : ∀ x ∈ c.exceptionTable.toList, covers x (g.pc + 3) = false)
    (hRframes : 5 < R.frames) (hRlocals : 2 * g.monitorRoom + ((Value.ref a :: rest).map fun v => v.category).sum + 81 ≤ R.locals) (hlocks : meth.locks = false) :
    ∃ U : State, Steps p.tables e below (T0.setTop g) U ∧ U.status = .running ∧ Ended U below (.threw a) ∧ s.WarmedH U.vm ∧ s.sameButNew ({ U with vm := s.vm } : State) locs cells slots ∧
      ∃ ce, U.heap[a]? = some ce ∧ ce.vm = .none ∧ s.vm.findClass vn_E = some ce.cls := by
  have k1 : e.platform.frameOwnsMonitors = true := by rw [X.admits.platform]
  have k2 : e.platform.finalization = false := by rw [X.admits.platform]
  have k3 : e.platform.magicAccessors = ({} : Platform).magicAccessors := by rw [X.admits.platform]
  have q : ∀ x, x ∈ vn_rest own ic → x.holds args s none s [] = true := fun x hx => h x (vn_a5 hx)
  obtain ⟨T, Z0, L, -, Y⟩ := ThrowableC.of_atoms (args := args) k1 k2 k3 (fun x hx => h x (vn_a1 hx))
  obtain ⟨Z, M, LZ, LM, hnZ⟩ := Init0T.ofS_atoms (args := args) k3 L Y (fun x hx => h x (vn_a2 hx))
  obtain ⟨P1, L1, m1, su1⟩ := PassC.ofS_atoms (args := args) (s := s) k3 (X := vn_E) (Y := vn_Y) (by decide +kernel) (by decide) vn_0 vn_1 vn_2 vn_5 (fun x hx => h x (vn_a3 hx))
  obtain ⟨P2, Ps, hlen, L2, hL, m2, up, pass⟩ := Bundle.chainS (args := args) k3 hnZ vn_r vn_Y (by decide +kernel) (by decide +kernel) (fun x hx => h x (vn_a4 hx))
  have hfound : s.vm.findClass vn_E = some P1.m.cls := findClass_of_methodNamed m1
  cases Option.some.inj (hfoundX.symm.trans hfound)
  obtain ⟨c1, k', hc1, hk, hord, -, -, -⟩ := Cond.instantiable_spec (q (.instantiable vn_E 6) (by simp [vn_rest]))
  cases Option.some.inj (hc1.symm.trans hfound)
  cases Option.some.inj (hkX.symm.trans hk)
  have sel0 : selectMethod e.platform s.vm P1.m.cls T.fill0 = .method T.fill0 := by
    obtain ⟨c2, r2, x2, q1, q2, q3, q4, -⟩ := Cond.selects_spec (q (.selects vn_E Bundle.tFill0 Bundle.tFill0) (by simp [vn_rest]))
    cases Option.some.inj (q1.symm.trans hfound)
    cases Option.some.inj (q2.symm.trans (State.methodFound?_of_named Y.fill0 (by decide)))
    cases Option.some.inj (q3.symm.trans Y.fill0)
    rw [Launch.admits_selectMethod X.admits]; exact q4
  have selF : selectMethod e.platform s.vm P1.m.cls T.fill = .method T.fill := by
    obtain ⟨c2, r2, x2, q1, q2, q3, q4, -⟩ := Cond.selects_spec (q (.selects vn_E Bundle.tFill Bundle.tFill) (by simp [vn_rest]))
    cases Option.some.inj (q1.symm.trans hfound)
    cases Option.some.inj (q2.symm.trans (State.methodFound?_of_named Y.fill (by decide)))
    cases Option.some.inj (q3.symm.trans Y.fill)
    rw [Launch.admits_selectMethod X.admits]; exact q4
  obtain ⟨cs0, hcs0, iss⟩ := Y.statics
  obtain ⟨u0, hu0⟩ := Cond.staticRefV Y.unassigned L.unassignedStatic L.statics hcs0 iss (q (.isRef (.static Bundle.tN "UNASSIGNED_STACK" Bundle.steD)) (by simp [vn_rest]))
  obtain ⟨sen, hsen⟩ := Cond.staticRefV Y.sentinel L.sentinelStatic L.statics hcs0 iss (q (.isRef (.static Bundle.tN "SUPPRESSED_SENTINEL" Bundle.listD)) (by simp [vn_rest]))
  obtain ⟨ci8, i8, fB, b1, b2, b3, b4, -, bn, bt, bf⟩ := Cond.ownField (t := .object "java/lang/Object") Y.found L.cls (by decide +kernel) (q (.fieldLink Bundle.tN 198 Bundle.tN "backtrace" "Ljava/lang/Object;") (by simp [vn_rest])) (q (.lays Bundle.tN Bundle.tN "backtrace" "Ljava/lang/Object;") (by simp [vn_rest])) e.platform k3
  obtain ⟨cs, hcs', hes, -, keep⟩ := X.same.2.2.2.2.2 T.aS cs0 hcs0
  have hcs : T0.heap[T.aS]? = some cs := hcs'
  have away : ∀ i, (⟨T.aS, i⟩ : Loc) ∉ locs := fun i hm => by
    have z := hlocs _ hm cs0 hcs0
    rw [iss] at z; cases z
  have known : cs.vm ≠ .unknown := by
    rw [hes]; intro z
    rw [show cs0.vm = .unknown from z] at iss
    cases iss
  have apart : T.aS ≠ a := Nat.ne_of_lt (Nat.lt_of_lt_of_le (Array.getElem?_eq_some_iff.mp hcs0).1 hnew)
  obtain ⟨iM, fM⟩ := Y.msg
  obtain ⟨tyC, dC, hdC, nC⟩ := Cond.laysAt hfound hk Y.cause (q (.lays vn_E Bundle.tN "cause" "Ljava/lang/Throwable;") (by simp [vn_rest]))
  obtain ⟨tyS, dS, hdS, nS⟩ := Cond.laysAt hfound hk Y.stack (q (.lays vn_E Bundle.tN "stackTrace" Bundle.steD) (by simp [vn_rest]))
  obtain ⟨tyP, dP, hdP, nP⟩ := Cond.laysAt hfound hk Y.supp (q (.lays vn_E Bundle.tN "suppressedExceptions" Bundle.listD) (by simp [vn_rest]))
  obtain ⟨tyM, dM, hdM, nM⟩ := Cond.laysAt hfound hk fM (q (.lays vn_E Bundle.tN "detailMessage" "Ljava/lang/String;") (by simp [vn_rest]))
  obtain ⟨tyB, dB, hdB, nB⟩ := Cond.laysAt hfound hk bf (q (.lays vn_E Bundle.tN "backtrace" "Ljava/lang/Object;") (by simp [vn_rest]))
  have z1 := Cond.laysApart hdB hdC nB nC (by rw [bn, Y.causeName]; decide)
  have z2 := Cond.laysApart hdB hdS nB nS (by rw [bn, Y.stackName]; decide)
  have z3 := Cond.laysApart hdB hdP nB nP (by rw [bn, Y.suppName]; decide)
  have skip : SkipFacts T e.platform s (fun u => u) u0 ((preparedCellV T.toThrowableT (freshCell P1.m.cls kX) a u0 sen).withEntry T0.cur) :=
    ⟨{ ci198 := ci8, i198 := i8, fBack := fB }, ⟨b1, b2, b3, b4⟩, by
      have z := fresh_default (c := P1.m.cls) tyB
      rw [bt] at z
      simpa [preparedCellV, Cell.setSlot, Cell.withEntry, Array.getElem?_setIfInBounds, z1, z2, z3, z1.symm, z2.symm, z3.symm, defaultValue] using z, fun _ _ => rfl⟩
  obtain ⟨tm, mC, cdC, kC, vm1, hnC, -, -, -, -, -, -, -, w1, st1⟩ := Steps.initColdS (tb := p.tables) (e := e) (below := below) (s := s) (U := T0) X.here hexec X.warmed k3 hown (t := Bundle.initS vn_E) rfl rfl (by decide)
    (q (.methodLink own ic (Bundle.initS vn_E)) (by simp [vn_rest])) (h (.instanceMethod (Bundle.initS vn_E)) (vn_a3 (by simp [Bundle.passSAtoms]))) (bytes := vn_six) (maxL := 2) (h (.code (Bundle.initS vn_E) vn_six 2 none) (vn_a3 (by simp [Bundle.passSAtoms])))
    (f := g) hg (a := a) (msg := msg) (rest := .ref a :: rest) hstack hd6
  cases Option.some.inj (hnC.symm.trans m1)
  have X1 := X.noted w1
  obtain ⟨vm2, X2, st2⟩ := X1.ctorMessageOffV hexec (g := { g with stack := .ref a :: rest }) hg hsize T L Z LZ M LM (P1 :: P2 :: Ps)
    (fun P hP => by
      rcases List.mem_cons.mp hP with rfl | hP
      · exact L1
      · rcases List.mem_cons.mp hP with rfl | hP
        · exact L2
        · exact hL P hP) ⟨Option.some.inj (su1.symm.trans m2), up, pass⟩ (u0 := u0) (sen := sen) (self := a) hmsg (cell := freshCell P1.m.cls kX) (cellS := cs)
    hcell (fun _ => by simp) (by simp) rfl rfl sel0 selF hcs apart known (by rw [keep _ (away _)]; exact hu0) (by rw [keep _ (away _)]; exact hsen)
    (Takes.of_laid hk hord tyC (by rw [Y.causeType]; rfl)) (Takes.of_laid hk hord tyS (by rw [Y.stackType]; exact fits_refV_array _ u0)) (Takes.of_laid hk hord tyP (by rw [Y.suppType]; exact fits_refV_object _ sen))
    (Takes.of_laid hk hord tyM (by rw [Y.msgType]; exact fits_refV_object _ ⟨msg, hmsg⟩)) Y.objLocals skip htr [] hd6
    (by simp only [List.length_cons, hlen, vn_r, List.length_nil]; omega) (by simp only [List.length_cons, hlen, vn_r, List.length_nil]; exact hRlocals)
  obtain ⟨hw, hrun, hend, hWU, hsame⟩ := X2.athrowLeaves hexec (g := { g with stack := .ref a :: rest, pc := g.pc + 3 }) hg hlocked hentered hout (a := a) (rest := rest) rfl hd9
  have hlt : a < ((T0.setVm vm1).setVm vm2).heap.size := (Array.getElem?_eq_some_iff.mp hcell).1
  have hU := heapAt_setCell_self (s := (T0.setVm vm1).setVm vm2) (plainBareV T.toThrowableT (freshCell P1.m.cls kX) a u0 sen msg) hlt
  refine ⟨_, st1 _ (fun acts => ?_), hrun, hend, hWU, hsame.weaken (fun y hy hl2 => ?_) (Nat.le_refl _) (Nat.le_refl _), _, hU, rfl, hfound⟩
  · rw [doInvoke_state]
    exact st2 _ hw
  · rcases List.mem_append.mp hy with z | z
    · exact z
    · exfalso
      have hb : y.base = a := by
        simp only [List.mem_cons, List.not_mem_nil, or_false] at z
        rcases z with rfl | rfl | rfl | rfl | rfl <;> rfl
      rw [hb] at hl2
      exact Nat.not_lt.mpr hnew hl2
end Ctor
section Thr
variable {l : Launch} {R : Room} {p : Program} {e : Env} {s : State} {m : MethodId} {args : Array Value} {below : List Frame} {meth : Method} {c : Code} {H : Array Cell} {locs : List Loc} {cells slots : Nat} {ls : Array Slot} {rest : List Value} {Qc : Array Value → State → Outcome → State → Prop} {XC : String → State → State → Prop} {free : Addr → Prop}
theorem vn_throw {cc : ByteArray} {pc : Nat} (hexec : p.tables.exec = Jvm.exec) (hb : c.code = cc) (hl : l.stackTraces = false) {own text : String} {ik is ic mc ms sa : Nat} {A : Nat → Prop}
    (hown : s.vm.findClass own = some m.cls)
    (hk : (Cond.classLink own ik vn_E).before args s = true) (hini : (Cond.initialized vn_E).before args s = true) (hstr : vk_R own is text sa s) (hat : ∀ w ∈ vn_at own ic, w.before args s = true)
    (hgood : ∀ w ∈ Cond.classLink own ik vn_E :: Cond.initialized vn_E :: vn_at own ic, vx_ot w = true)
    (hU : vx_Zq Bundle.tN "UNASSIGNED_STACK" Bundle.steD A s s.heap) (hN : vx_Zq Bundle.tN "SUPPRESSED_SENTINEL" Bundle.listD A s s.heap) (hS : va_S A s.heap H locs) (hsize : ls.size = c.maxLocals)
    (d0 : decode cc pc = .ok (.new ik, 3)) (d3 : decode cc (pc + 3) = .ok (.dup, 1)) (d4 : decode cc (pc + 4) = .ok (.ldc is, 2)) (d6 : decode cc (pc + 6) = .ok (.invokespecial ic, 3)) (d9 : decode cc (pc + 9) = .ok (.athrow, 1))
    (hout : ∀ x ∈ c.exceptionTable.toList, covers x (pc + 9) = false)
    (hRframes : 5 < R.frames) (hRlocals : (rest.map fun v => v.category).sum + 82 ≤ R.locals) (hRcells : cells + 1 ≤ R.cells) (hRslots : slots + 6 ≤ R.slots) (hlocks : meth.locks = false)
    (hx : ∀ t : State, s.vm.Alike t.vm → H.size ≤ t.heap.size → (∀ q : Nat, q < H.size → t.heap[q]? = H[q]?) → XC vn_E s t)
    (hf : ∀ z ∈ locs, free z.base) (hc : cells + 1 ≤ mc) (hs : slots + 6 ≤ ms) :
    W p l e R s m args below meth c H locs cells slots (vx_MQ below Qc XC args s mc ms free) (F0 m pc ls rest) := by
  intro T hT X
  have htr : e.platform.stackTraces = false := (show e.platform.stackTraces = l.stackTraces by rw [X.admits.platform]).trans hl
  have Y := vx_rebase X (R' := { frames := R.frames, locals := R.locals, cells := 1, slots := 6 }) (Nat.le_refl _) (Nat.le_refl _) hRcells hRslots
  obtain ⟨s', hA⟩ : ∃ z, z = (T.setVm s.vm).setFrames (.invoking m args :: below) := ⟨_, rfl⟩
  rw [← hA] at Y
  have hvm : s'.vm = s.vm := by rw [hA]; rfl
  have hhp : s'.heap = H := by rw [hA]; exact hT
  have hW0 : s.WarmedH s'.vm := by rw [hvm]; exact State.WarmedH.refl s
  have ha9 : ∀ w ∈ vn_at own ic, w.before args s' = true := fun w hw => vx_ot_at hW0 hvm.symm (hgood w (List.mem_cons_of_mem _ (List.mem_cons_of_mem _ hw))) (hat w hw)
  have hU' : vx_Zq Bundle.tN "UNASSIGNED_STACK" Bundle.steD A s' s'.heap := by rw [hhp]; exact vx_Zq.moved hW0.alike (hU.kept hS.2.1)
  have hN' : vx_Zq Bundle.tN "SUPPRESSED_SENTINEL" Bundle.listD A s' s'.heap := by rw [hhp]; exact vx_Zq.moved hW0.alike (hN.kept hS.2.1)
  have h : ∀ w ∈ vn_all own ic, w.before args s' = true := vx_own ha9 (vx_isRefq hU'.1) (vx_isRefq hN'.1) hU'.2.word hN'.2.word
  have hown' : s'.vm.findClass own = some m.cls := by rw [hvm]; exact hown
  obtain ⟨vm₁, cX, kX, hfX, hkX, -, -, X₁, st1⟩ := Y.newCold hexec (own := own) (C := vn_E) (index := ik) (n := 6) hown' (vx_ot_at hW0 hvm.symm (hgood _ List.mem_cons_self) hk) (h _ (vn_a5 (by simp [vn_rest]))) (vx_ot_at hW0 hvm.symm (hgood _ (List.mem_cons_of_mem _ List.mem_cons_self)) hini)
    (g := F0 m pc ls rest) rfl (by rw [hb]; exact d0) (Nat.le_refl _) (Nat.le_refl _)
  generalize hT1 : (T.setVm vm₁).pushCell { cls := cX, slots := kX.instanceTypes.map defaultValue, vm := .none } = T1 at X₁ st1
  have hcat : (Value.ref T.heap.size).category = 1 := rfl
  have hcellA : T1.heap[T.heap.size]? = some (freshCell cX kX) := by rw [← hT1]; exact State.heap_pushCell_size _ _
  have d3' : decode c.code (pc + 3) = .ok (.dup, 1) := by rw [hb]; exact d3
  have d4' : decode c.code (pc + 4) = .ok (.ldc is, 2) := by rw [hb]; exact d4
  have hstr' : vk_R own is text sa s' := vk_R.warm hW0 hstr
  obtain ⟨U, hsteps, hrun, hend, hW, hsame, ce, hce, hO1, hO2⟩ := vn_ctor X₁ hexec htr (own := own) (ic := ic) hown' h (fun x hx => nomatch hx) hfX hkX hcellA (by rw [hhp, hT]; exact Nat.le_refl _) (msg := .ref sa) rfl
    (g := { method := m, pc := pc + 6, locals := ls, stack := .ref sa :: .ref T.heap.size :: .ref T.heap.size :: rest, locked := none }) rfl hsize rfl rfl (rest := rest) rfl
    (by rw [hb]; exact d6) (by rw [hb]; exact d9) hout hRframes (by simp only [List.map_cons, List.sum_cons, hcat]; omega) hlocks
  obtain ⟨f1, f2⟩ := vx_frame hsame
  rw [hhp] at f1 f2
  have hWs : s.WarmedH U.vm := State.WarmedH.trans hW0 hW
  have hcl : s.vm.findClass vn_E = some ce.cls := by rw [hvm] at hO2; exact hO2
  have hall : s.sameButNew ({ U with vm := s.vm } : State) locs mc ms := by
    subst hA
    obtain ⟨e1, e2⟩ := hsame
    rw [State.setFrames_setFrames] at e1
    have h2 : (T.setVm s.vm).sameButNew ({ U with vm := s.vm } : State) [] (0 + 1) (0 + 6) := ⟨e1, e2⟩
    have h3 := X.same.trans h2
    rw [List.append_nil] at h3
    exact h3.mono hc hs
  refine ⟨U, ?_, .threw T.heap.size, hrun, hend, Or.inr ⟨T.heap.size, rfl, vn_E, ce, locs, hx U hWs.alike f1 (fun q hq => f2 q hq (fun z hz => nomatch hz)), hce, hO1, hcl, hWs, hall, hf⟩⟩
  refine st1 _ ?_
  show Steps p.tables e below (T1.setTop { method := m, pc := pc + 3, locals := ls, stack := .ref T.heap.size :: rest, locked := none }) _
  jvm_step X₁.here [X₁.here.top, hexec, d3', Value.category]
  exact X₁.ldcString hexec (own := own) (text := text) (index := is) (a := sa) hown' hstr'.1 hstr'.2
    (g := { method := m, pc := pc + 4, locals := ls, stack := .ref T.heap.size :: .ref T.heap.size :: rest, locked := none }) rfl d4' _ hsteps
end Thr
section ThrW
variable {l : Launch} {R : Room} {p : Program} {e : Env} {s : State} {m : MethodId} {args : Array Value} {below : List Frame} {meth : Method} {c : Code} {H : Array Cell} {locs : List Loc} {cells slots : Nat} {ls : Array Slot} {rest : List Value} {Qc : Array Value → State → Outcome → State → Prop} {XC : String → State → State → Prop} {free : Addr → Prop}
theorem vn_throwW {cc : ByteArray} {pc : Nat} (hexec : p.tables.exec = Jvm.exec) (hb : c.code = cc) (hl : l.stackTraces = false) {own text : String} {ik is ic mc ms sa : Nat} {A : Nat → Prop}
    (hown : s.vm.findClass own = some m.cls)
    (hk : (Cond.classLink own ik vn_E).before args s = true) (hini : (Cond.initialized vn_E).before args s = true) (hstr : vk_R own is text sa s) (hat : ∀ w ∈ vn_at own ic, w.before args s = true)
    (hgood : ∀ w ∈ Cond.classLink own ik vn_E :: Cond.initialized vn_E :: vn_at own ic, vx_ot w = true)
    (hU : vx_Zq Bundle.tN "UNASSIGNED_STACK" Bundle.steD A s s.heap) (hN : vx_Zq Bundle.tN "SUPPRESSED_SENTINEL" Bundle.listD A s s.heap) (hS : va_S A s.heap H locs) (hsize : ls.size = c.maxLocals)
    (d0 : decode cc pc = .ok (.new ik, 3)) (d3 : decode cc (pc + 3) = .ok (.dup, 1)) (d4 : decode cc (pc + 4) = .ok (.ldc_w is, 3)) (d6 : decode cc (pc + 7) = .ok (.invokespecial ic, 3)) (d9 : decode cc (pc + 10) = .ok (.athrow, 1))
    (hout : ∀ x ∈ c.exceptionTable.toList, covers x (pc + 10) = false)
    (hRframes : 5 < R.frames) (hRlocals : (rest.map fun v => v.category).sum + 82 ≤ R.locals) (hRcells : cells + 1 ≤ R.cells) (hRslots : slots + 6 ≤ R.slots) (hlocks : meth.locks = false)
    (hx : ∀ t : State, s.vm.Alike t.vm → H.size ≤ t.heap.size → (∀ q : Nat, q < H.size → t.heap[q]? = H[q]?) → XC vn_E s t)
    (hf : ∀ z ∈ locs, free z.base) (hc : cells + 1 ≤ mc) (hs : slots + 6 ≤ ms) :
    W p l e R s m args below meth c H locs cells slots (vx_MQ below Qc XC args s mc ms free) (F0 m pc ls rest) := by
  intro T hT X
  have htr : e.platform.stackTraces = false := (show e.platform.stackTraces = l.stackTraces by rw [X.admits.platform]).trans hl
  have Y := vx_rebase X (R' := { frames := R.frames, locals := R.locals, cells := 1, slots := 6 }) (Nat.le_refl _) (Nat.le_refl _) hRcells hRslots
  obtain ⟨s', hA⟩ : ∃ z, z = (T.setVm s.vm).setFrames (.invoking m args :: below) := ⟨_, rfl⟩
  rw [← hA] at Y
  have hvm : s'.vm = s.vm := by rw [hA]; rfl
  have hhp : s'.heap = H := by rw [hA]; exact hT
  have hW0 : s.WarmedH s'.vm := by rw [hvm]; exact State.WarmedH.refl s
  have ha9 : ∀ w ∈ vn_at own ic, w.before args s' = true := fun w hw => vx_ot_at hW0 hvm.symm (hgood w (List.mem_cons_of_mem _ (List.mem_cons_of_mem _ hw))) (hat w hw)
  have hU' : vx_Zq Bundle.tN "UNASSIGNED_STACK" Bundle.steD A s' s'.heap := by rw [hhp]; exact vx_Zq.moved hW0.alike (hU.kept hS.2.1)
  have hN' : vx_Zq Bundle.tN "SUPPRESSED_SENTINEL" Bundle.listD A s' s'.heap := by rw [hhp]; exact vx_Zq.moved hW0.alike (hN.kept hS.2.1)
  have h : ∀ w ∈ vn_all own ic, w.before args s' = true := vx_own ha9 (vx_isRefq hU'.1) (vx_isRefq hN'.1) hU'.2.word hN'.2.word
  have hown' : s'.vm.findClass own = some m.cls := by rw [hvm]; exact hown
  obtain ⟨vm₁, cX, kX, hfX, hkX, -, -, X₁, st1⟩ := Y.newCold hexec (own := own) (C := vn_E) (index := ik) (n := 6) hown' (vx_ot_at hW0 hvm.symm (hgood _ List.mem_cons_self) hk) (h _ (vn_a5 (by simp [vn_rest]))) (vx_ot_at hW0 hvm.symm (hgood _ (List.mem_cons_of_mem _ List.mem_cons_self)) hini)
    (g := F0 m pc ls rest) rfl (by rw [hb]; exact d0) (Nat.le_refl _) (Nat.le_refl _)
  generalize hT1 : (T.setVm vm₁).pushCell { cls := cX, slots := kX.instanceTypes.map defaultValue, vm := .none } = T1 at X₁ st1
  have hcat : (Value.ref T.heap.size).category = 1 := rfl
  have hcellA : T1.heap[T.heap.size]? = some (freshCell cX kX) := by rw [← hT1]; exact State.heap_pushCell_size _ _
  have d3' : decode c.code (pc + 3) = .ok (.dup, 1) := by rw [hb]; exact d3
  have d4' : decode c.code (pc + 4) = .ok (.ldc_w is, 3) := by rw [hb]; exact d4
  have hstr' : vk_R own is text sa s' := vk_R.warm hW0 hstr
  obtain ⟨U, hsteps, hrun, hend, hW, hsame, ce, hce, hO1, hO2⟩ := vn_ctor X₁ hexec htr (own := own) (ic := ic) hown' h (fun x hx => nomatch hx) hfX hkX hcellA (by rw [hhp, hT]; exact Nat.le_refl _) (msg := .ref sa) rfl
    (g := { method := m, pc := pc + 7, locals := ls, stack := .ref sa :: .ref T.heap.size :: .ref T.heap.size :: rest, locked := none }) rfl hsize rfl rfl (rest := rest) rfl
    (by rw [hb]; exact d6) (by rw [hb]; exact d9) hout hRframes (by simp only [List.map_cons, List.sum_cons, hcat]; omega) hlocks
  obtain ⟨f1, f2⟩ := vx_frame hsame
  rw [hhp] at f1 f2
  have hWs : s.WarmedH U.vm := State.WarmedH.trans hW0 hW
  have hcl : s.vm.findClass vn_E = some ce.cls := by rw [hvm] at hO2; exact hO2
  have hall : s.sameButNew ({ U with vm := s.vm } : State) locs mc ms := by
    subst hA
    obtain ⟨e1, e2⟩ := hsame
    rw [State.setFrames_setFrames] at e1
    have h2 : (T.setVm s.vm).sameButNew ({ U with vm := s.vm } : State) [] (0 + 1) (0 + 6) := ⟨e1, e2⟩
    have h3 := X.same.trans h2
    rw [List.append_nil] at h3
    exact h3.mono hc hs
  refine ⟨U, ?_, .threw T.heap.size, hrun, hend, Or.inr ⟨T.heap.size, rfl, vn_E, ce, locs, hx U hWs.alike f1 (fun q hq => f2 q hq (fun z hz => nomatch hz)), hce, hO1, hcl, hWs, hall, hf⟩⟩
  refine st1 _ ?_
  show Steps p.tables e below (T1.setTop { method := m, pc := pc + 3, locals := ls, stack := .ref T.heap.size :: rest, locked := none }) _
  jvm_step X₁.here [X₁.here.top, hexec, d3', Value.category]
  exact X₁.ldcStringW hexec (own := own) (text := text) (index := is) (a := sa) hown' hstr'.1 hstr'.2
    (g := { method := m, pc := pc + 4, locals := ls, stack := .ref T.heap.size :: .ref T.heap.size :: rest, locked := none }) rfl d4' _ hsteps
end ThrW
end VN
section VNR
variable {l : Launch} {G : ux_G} {mi : ux_I} {R : Room} {k : Nat} {Q : Option Value → ux_H → Prop} {X : String → ux_H → Prop} {pc : Nat} {L : List (Option Value)} {h : ux_H} {u : Nat}
def ux_tn (own : String) (ik is ic : Nat) (text : String) : Prop := Cond.classLink own ik vn_E ∈ ux_T ∧ Cond.initialized vn_E ∈ ux_T ∧ (∀ w ∈ vn_at own ic, w ∈ ux_T ∨ w ∈ ux_N) ∧ (∀ w ∈ Cond.classLink own ik vn_E :: Cond.initialized vn_E :: vn_at own ic, vx_ot w = true) ∧ (own, is, text) ∈ ux_tx
theorem ux_hatn {own : String} {ic : Nat} {s : State} {args : Array Value} (h1 : ∀ w ∈ vn_at own ic, w ∈ ux_T ∨ w ∈ ux_N) (ht : ∀ w ∈ ux_T, w.before args s = true) (hn : ∀ w ∈ ux_N, va_Nw w s) : ∀ w ∈ vn_at own ic, w.before args s = true := by
  intro w hw
  rcases h1 w hw with q | q
  · exact ht w q
  · have hs := (List.mem_filter.mp q).2
    have hon : w.onTables = true := by
      cases w <;> first | rfl | (exfalso; revert hs; unfold ux_nst; exact fun z => Bool.noConfusion z)
    exact (hn w q).use hon
theorem g_throwN {ik is ic : Nat} {text : String} (t : ux_tn mi.2.2.1 ik is ic text) (d0 : decode mi.1 pc = .ok (.new ik, 3)) (d3 : decode mi.1 (pc + 3) = .ok (.dup, 1)) (d4 : decode mi.1 (pc + 4) = .ok (.ldc is, 2)) (d6 : decode mi.1 (pc + 6) = .ok (.invokespecial ic, 3)) (d9 : decode mi.1 (pc + 9) = .ok (.athrow, 1)) (hh : mi.2.2.2.2 = []) (hR : (Nat.ble 6 R.frames && Nat.ble 100 R.locals && Nat.ble (u + 1) R.cells && Nat.ble (6 * u + 6) R.slots) = true) (hu : u + 1 ≤ k) (hx : X "java/util/NoSuchElementException" h) : ux_W l G mi R (ux_Z G k Q X) pc L [] h u := by
  intro p e s m args below meth c H locs ls C hH hS hl
  obtain ⟨t2, t3, t4, t5, t6⟩ := t
  obtain ⟨c1, c2, c3, c4, c5, c6, c7, c8, w1, w2, w3, w4, w5, w6, w7, w8, w9, w10⟩ := C
  obtain ⟨sa, hsa⟩ := w6 _ t6
  simp only [Bool.and_eq_true] at hR
  have r1 := Nat.le_of_ble_eq_true hR.1.1.1
  have r2 := Nat.le_of_ble_eq_true hR.1.1.2
  have r3 := Nat.le_of_ble_eq_true hR.1.2
  have r4 := Nat.le_of_ble_eq_true hR.2
  have ht : c.exceptionTable.toList = [] := by rw [c8, hh]; rfl
  refine vn_throw (own := mi.2.2.1) (text := text) (A := ux_A G) c1 c2 w2 c4 (c5 _ t2) (c5 _ t3) hsa (ux_hatn t4 c5 w3) t5 w4 w5 hS (hl.1.trans c3.symm) d0 d3 d4 d6 d9 (by rw [ht]; exact fun x z => absurd z List.not_mem_nil) ?_ ?_ r3 r4 c6 ?_ (fun z hz => hS.2.2 z hz) hu (by omega)
  · omega
  · show 0 + 82 ≤ R.locals
    omega
  · intro t2 _ hz hk
    refine ⟨⟨h, hx, hH.kept (fun k0 q0 hq0 => hk _ (hH k0 q0 hq0).lt)⟩, Nat.le_trans hS.1 hz, fun q hq hn => ?_⟩
    rw [hk q (Nat.lt_of_lt_of_le hq hS.1)]
    exact hS.2.1 q hq hn
theorem g_throwNW {ik is ic : Nat} {text : String} (t : ux_tn mi.2.2.1 ik is ic text) (d0 : decode mi.1 pc = .ok (.new ik, 3)) (d3 : decode mi.1 (pc + 3) = .ok (.dup, 1)) (d4 : decode mi.1 (pc + 4) = .ok (.ldc_w is, 3)) (d6 : decode mi.1 (pc + 7) = .ok (.invokespecial ic, 3)) (d9 : decode mi.1 (pc + 10) = .ok (.athrow, 1)) (hh : mi.2.2.2.2 = []) (hR : (Nat.ble 6 R.frames && Nat.ble 100 R.locals && Nat.ble (u + 1) R.cells && Nat.ble (6 * u + 6) R.slots) = true) (hu : u + 1 ≤ k) (hx : X "java/util/NoSuchElementException" h) : ux_W l G mi R (ux_Z G k Q X) pc L [] h u := by
  intro p e s m args below meth c H locs ls C hH hS hl
  obtain ⟨t2, t3, t4, t5, t6⟩ := t
  obtain ⟨c1, c2, c3, c4, c5, c6, c7, c8, w1, w2, w3, w4, w5, w6, w7, w8, w9, w10⟩ := C
  obtain ⟨sa, hsa⟩ := w6 _ t6
  simp only [Bool.and_eq_true] at hR
  have r1 := Nat.le_of_ble_eq_true hR.1.1.1
  have r2 := Nat.le_of_ble_eq_true hR.1.1.2
  have r3 := Nat.le_of_ble_eq_true hR.1.2
  have r4 := Nat.le_of_ble_eq_true hR.2
  have ht : c.exceptionTable.toList = [] := by rw [c8, hh]; rfl
  refine vn_throwW (own := mi.2.2.1) (text := text) (A := ux_A G) c1 c2 w2 c4 (c5 _ t2) (c5 _ t3) hsa (ux_hatn t4 c5 w3) t5 w4 w5 hS (hl.1.trans c3.symm) d0 d3 d4 d6 d9 (by rw [ht]; exact fun x z => absurd z List.not_mem_nil) ?_ ?_ r3 r4 c6 ?_ (fun z hz => hS.2.2 z hz) hu (by omega)
  · omega
  · show 0 + 82 ≤ R.locals
    omega
  · intro t2 _ hz hk
    refine ⟨⟨h, hx, hH.kept (fun k0 q0 hq0 => hk _ (hH k0 q0 hq0).lt)⟩, Nat.le_trans hS.1 hz, fun q hq hn => ?_⟩
    rw [hk q (Nat.lt_of_lt_of_le hq hS.1)]
    exact hS.2.1 q hq hn
end VNR
set_option maxRecDepth 100000 in
theorem anX5_224 : ∀ w ∈ vn_at RX5 224, w ∈ ux_T ∨ w ∈ ux_N := by decide +kernel
set_option maxRecDepth 100000 in
theorem onX5_224 : ∀ w ∈ Cond.classLink RX5 220 vn_E :: Cond.initialized vn_E :: vn_at RX5 224, vx_ot w = true := by decide +kernel
theorem tX5_222_224 : ux_tn RX5 220 222 224 "the class has no lesson in the slot" := ⟨ux_mem (n := 860) (by decide +kernel) (by decide +kernel), ux_mem (n := 154) (by decide +kernel) (by decide +kernel), anX5_224, onX5_224, by decide +kernel⟩
theorem tX5_248_224 : ux_tn RX5 220 248 224 "there is no such open lesson" := ⟨ux_mem (n := 860) (by decide +kernel) (by decide +kernel), ux_mem (n := 154) (by decide +kernel) (by decide +kernel), anX5_224, onX5_224, by decide +kernel⟩
theorem tX5_262_224 : ux_tn RX5 220 262 224 "no teacher can cover the lesson" := ⟨ux_mem (n := 860) (by decide +kernel) (by decide +kernel), ux_mem (n := 154) (by decide +kernel) (by decide +kernel), anX5_224, onX5_224, by decide +kernel⟩
theorem tX5_306_224 : ux_tn RX5 220 306 224 "no reason was kept" := ⟨ux_mem (n := 860) (by decide +kernel) (by decide +kernel), ux_mem (n := 154) (by decide +kernel) (by decide +kernel), anX5_224, onX5_224, by decide +kernel⟩
theorem tX5_386_224 : ux_tn RX5 220 386 224 "no error position was kept" := ⟨ux_mem (n := 860) (by decide +kernel) (by decide +kernel), ux_mem (n := 154) (by decide +kernel) (by decide +kernel), anX5_224, onX5_224, by decide +kernel⟩
theorem tX5_393_224 : ux_tn RX5 220 393 224 "there is no such character" := ⟨ux_mem (n := 860) (by decide +kernel) (by decide +kernel), ux_mem (n := 154) (by decide +kernel) (by decide +kernel), anX5_224, onX5_224, by decide +kernel⟩
theorem tX5_406_224 : ux_tn RX5 220 406 224 "no change is remembered" := ⟨ux_mem (n := 860) (by decide +kernel) (by decide +kernel), ux_mem (n := 154) (by decide +kernel) (by decide +kernel), anX5_224, onX5_224, by decide +kernel⟩
theorem tX5_420_224 : ux_tn RX5 220 420 224 "there are no teachers" := ⟨ux_mem (n := 860) (by decide +kernel) (by decide +kernel), ux_mem (n := 154) (by decide +kernel) (by decide +kernel), anX5_224, onX5_224, by decide +kernel⟩
theorem tX5_422_224 : ux_tn RX5 220 422 224 "there is no plan" := ⟨ux_mem (n := 860) (by decide +kernel) (by decide +kernel), ux_mem (n := 154) (by decide +kernel) (by decide +kernel), anX5_224, onX5_224, by decide +kernel⟩
