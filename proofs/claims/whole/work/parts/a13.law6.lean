/-! THE CLAIM OUT OF ONE WALK OF THE LAW'S BODY. Your part is whole_start (and what it stands on); all else here is the same for every law, but numbers. -/
def R_law : String := "SubstituteDeskLaw"
def lw_P (b : Addr) (xs : List Int32) (args : Array Value) (s : State) : Prop := args = #[.ref b] ∧ s.IntsAt b xs ∧ xs.length ≤ 3072 ∧ (Jvm.Cond.and given_1 narrow_1).before args s = true
/-- what a walk over the start with the record d0 says of its end, said of the start itself -/
theorem lw_closed {s t : State} {o : Outcome} {d0 : Drawn} {L : List Loc} {k n : Nat} (hd0 : s.drawn.sameBut d0 lw_cs) (hv : ∃ v, o = .returned v) (hW : (s.setDrawn d0).WarmedH t.vm) (hs : (s.setDrawn d0).sameButNew ({ t with vm := s.vm } : State) L k n) : State.butDraws s t lw_cs (fun t1 => Framed s o t1 L k n) := by
  have h2 : t.drawn = d0 := congrArg State.drawn hs.1
  refine ⟨⟨hv, hW, State.sameButNew.setDrawn hs s.drawn⟩, ?_, by decide⟩
  rw [h2]
  exact hd0
def lw_Q (_ : Array Value) (s : State) (o : Outcome) (t : State) : Prop := o = .returned (some (.int 1)) ∧ State.butDraws s t lw_cs (fun t1 => Framed s o t1 [] 603072 7198826)
def lw_Z (below : List Frame) (a : Array Value) (s : State) : State → Prop := fun t => ∃ o, t.status = .running ∧ Ended t below o ∧ lw_Q a s o t
/-- the law's own end, with 1 on the stack, nothing written that was there before, its room as the claim has it; d0: the record of draws at this point (at the entry s.drawn: begin with 'refine W.base ?_' and 'have hd0 := Drawn.sameBut.refl s.drawn lw_cs') -/
theorem lw_ret {p : Program} {l : Launch} {e : Env} {s : State} {m : MethodId} {below : List Frame} {meth : Method} {c : Code} {b : Nat} {d0 : Drawn} (hd0 : s.drawn.sameBut d0 lw_cs) (hx : p.tables.exec = Jvm.exec) (hb : c.code = code) (hr : meth.sig.returnType = ret) (hlocks : meth.locks = false) {pc : Nat} {H : Heap} {ls : Array Slot} (hdg : decode code pc = .ok (.ireturn, 1)) : W p l e room_1 (s.setDrawn d0) m #[Value.ref b] below meth c H [] 603072 7198826 (lw_Z below #[Value.ref b] s) (F0 m pc ls [.int 1]) := by
  intro T hT X
  obtain ⟨fs, hret, hrun, hended, hW, hframe⟩ := X.leave (v := some (.int 1)) (hlocks := hlocks) (fun h => by rw [hr] at h; cases h)
  have hmeth' : T.vm.method? m = some meth := X.method'
  refine ⟨T.setFrames fs, ?_, .returned (some (.int 1)), hrun, hended, rfl, lw_closed hd0 ⟨_, rfl⟩ hW hframe⟩
  jvm_step X.here [X.here.top, hx, hb, hdg, hmeth', hr, ret, narrow_b1]
  (try refine ⟨rfl, ?_⟩); (try refine ⟨rfl, ?_⟩)
  first | (intro acts; rw [hret _ acts rfl rfl rfl]) | rw [hret _ _ rfl rfl rfl]
  exact Steps.refl _
/-- what holds at the law's entry: the machine, the code, the tables' words (any of lw_tbl by 'hts w (by decide +kernel)'), the script of L ints xs at the cell b, what the Statement gives of the start (any of its parts by flat_of_before) -/
def lw_At (p : Program) (s : State) (m : MethodId) (meth : Method) (c : Code) (b L : Nat) (xs : Nat → Int32) : Prop :=
  p.tables.exec = Jvm.exec ∧ c.code = code ∧ meth.sig.returnType = ret ∧ c.maxLocals = 9 ∧ s.vm.findClass R_law = some m.cls ∧ (∀ w ∈ lw_tbl, w.before #[Value.ref b] s = true) ∧ va_X b L xs s s.heap ∧ b < s.heap.size ∧ meth.locks = false ∧ (Jvm.Cond.and given_1 narrow_1).before #[Value.ref b] s = true
/-! THE LAW: its rows. -/
abbrev iW (hh : List (Nat × Nat × Nat × Nat)) : ux_I := (cL_law, 9, RL, some .boolean, hh)
def lF (G : ux_G) (b Ln : Nat) (xs : Nat → Int32) (args : Array Value) (s : State) : Prop := args = #[Value.ref b] ∧ va_X b Ln xs s s.heap ∧ b < s.heap.size ∧ G.1 = s.heap.size
def lZ (G : ux_G) (b Ln : Nat) (xs : Nat → Int32) : ux_Zt := fun args s below t => lF G b Ln xs args s → lw_Z below args s t
theorem ro_law {mL d k u : Nat} (h1 : mL ≤ 40) (h2 : d ≤ 40) (h3 : k ≤ 10) (h4 : u ≤ 100000) : ux_ro room_1 mL d k u = true := by
  unfold ux_ro room_1
  simp only [Bool.and_eq_true, decide_eq_true_eq]
  omega
theorem nI_0K {K : Nat} (h : K ≤ 100) (e : nI K = 0) : K = 0 := by
  have := (nI_leI (a := K) (b := 0) (by omega) (by omega)).mp (by rw [e]; decide)
  omega
theorem lg_cmp_self (x : Int64) : lg_cmp x x = 0 := by unfold lg_cmp; simp
section UXLW
variable {l : Launch} {G : ux_G} {hh : List (Nat × Nat × Nat × Nat)} {b Ln : Nat} {xs : Nat → Int32} {pc : Nat} {L : List (Option Value)} {st : List Value} {h : ux_H} {u : Nat}
theorem g_lfx (n : ∀ p e s m args below meth c H locs ls, lF G b Ln xs args s → ux_C l G (iW hh) p s m args meth c → ux_hw G h H → va_S (ux_A G) s.heap H locs → lv_has ls 9 (ux_lv G 0 L) → W p l e room_1 s m args below meth c H locs u (6 * u) (lZ G b Ln xs args s below) (F0 m pc ls (st.map (ux_cv G)))) : ux_W l G (iW hh) room_1 (lZ G b Ln xs) pc L st h u := by
  intro p e s m args below meth c H locs ls C hH hS hl
  by_cases hf : lF G b Ln xs args s
  · exact n p e s m args below meth c H locs ls hf C hH hS hl
  · intro T hT X
    exact ⟨_, Steps.refl _, fun q => absurd q hf⟩
theorem g_slen (d : decode cL_law pc = .ok (.arraylength, 1)) (k : ux_W l G (iW hh) room_1 (lZ G b Ln xs) (pc + 1) L (.int (nI Ln) :: st) h u) : ux_W l G (iW hh) room_1 (lZ G b Ln xs) pc L (.ref (1000 + b) :: st) h u := by
  refine g_lfx (fun p e s m args below meth c H locs ls hf C hH hS hl => ?_)
  rw [List.map_cons, ux_cv_raw]
  obtain ⟨f1, f2, f3, f4⟩ := hf
  exact va_slen C.1 C.2.1 f2 f3 (by show ¬ G.1 ≤ b; omega) hS d (k p e s m args below meth c H locs ls C hH hS hl)
theorem g_sld {j : Nat} {i : Int32} (d : decode cL_law pc = .ok (.iaload, 1)) (hi : i = nI j) (hj : j < Ln) (hL : Ln ≤ 3072) (k : ux_W l G (iW hh) room_1 (lZ G b Ln xs) (pc + 1) L (.int (xs j) :: st) h u) : ux_W l G (iW hh) room_1 (lZ G b Ln xs) pc L (.int i :: .ref (1000 + b) :: st) h u := by
  refine g_lfx (fun p e s m args below meth c H locs ls hf C hH hS hl => ?_)
  rw [List.map_cons, List.map_cons, ux_cv_raw]
  obtain ⟨f1, f2, f3, f4⟩ := hf
  refine va_sld C.1 C.2.1 f2 f3 (by show ¬ G.1 ≤ b; omega) hS (i := i) (by rw [hi]; exact vp_in_nI hj (Nat.lt_of_le_of_lt hL (by decide))) d ?_
  rw [hi, nI_clamp (Nat.lt_trans hj (Nat.lt_of_le_of_lt hL (by decide)))]
  exact k p e s m args below meth c H locs ls C hH hS hl
/-- a word of the script behind the place -/
theorem g_scr {i k : Nat} {kk : Int} (d0 : decode cL_law pc = .ok (.aload_n 0, 1)) (d1 : decode cL_law (pc + 1) = .ok (.iload 5, 2)) (d3 : decode cL_law (pc + 3) = .ok (.iconst kk, 1)) (d4 : decode cL_law (pc + 4) = .ok (.iadd, 1)) (d5 : decode cL_law (pc + 5) = .ok (.iaload, 1)) (hk : Int32.ofInt kk = nI k) (h0 : L[0]? = some (some (.ref (1000 + b)))) (h5 : L[5]? = some (some (.int (nI i)))) (hi : i + k < Ln) (hL : Ln ≤ 3072)
    (n : ux_W l G (iW hh) room_1 (lZ G b Ln xs) (pc + 6) L (.int (iI (xs (i + k)).toInt) :: st) h u) : ux_W l G (iW hh) room_1 (lZ G b Ln xs) pc L st h u := by
  refine g_aload_n d0 h0 ?_
  refine g_iload d1 h5 ?_
  refine g_iconst d3 hk ?_
  refine g_iadd d4 ?_
  refine g_sld d5 (nI_add i k) hi hL ?_
  rw [iI_self] at n
  exact n
/-- a word as a boolean -/
theorem g_bool {mi : ux_I} {R : Room} {Z : ux_Zt} {x : Int32} (d0 : decode mi.1 pc = .ok (.ifCond .eq 7, 3)) (d3 : decode mi.1 (pc + 3) = .ok (.iconst 1, 1)) (d4 : decode mi.1 (pc + 4) = .ok (.goto 4, 3)) (d7 : decode mi.1 (pc + 7) = .ok (.iconst 0, 1)) (n : ux_W l G mi R Z (pc + 8) L (.int (if decide (x ≠ 0) = true then 1 else 0) :: st) h u) : ux_W l G mi R Z pc L (.int x :: st) h u := by
  refine g_if_eq (tgt := pc + 7) d0 (by omega) (fun c => ?_) (fun c => ?_)
  · refine g_iconst (v := 0) d7 rfl ?_
    rw [if_neg (by simp [c])] at n
    exact n
  · refine g_iconst (v := 1) d3 rfl ?_
    refine g_goto (tgt := pc + 8) d4 (by omega) ?_
    rw [if_pos (by simp [c])] at n
    exact n
theorem g_less {mi : ux_I} {R : Room} {Z : ux_Zt} {L' : List (Option Value)} (hs : ∀ q, q ∈ ux_lv G 0 L' → q ∈ ux_lv G 0 L) (n : ux_W l G mi R Z pc L' st h u) : ux_W l G mi R Z pc L st h u := by
  intro p e s m args below meth c H locs ls C hH hS hl
  exact n p e s m args below meth c H locs ls C hH hS (ux_has hl hs)
theorem l_less {i x y : Int32} : ∀ q, q ∈ ux_lv G 0 [some (.ref (1000 + b)), some (.ref 176), some (.ref 192), some (.ref 202), some (.ref 203), some (.int i), none, none, none] → q ∈ ux_lv G 0 [some (.ref (1000 + b)), some (.ref 176), some (.ref 192), some (.ref 202), some (.ref 203), some (.int i), some (.int x), some (.int y), none] := by
  intro q hq
  exact List.mem_append_left (bs := [(6, ux_cv G (.int x)), (7, ux_cv G (.int y))]) hq
/-- behind both calls: the codes are compared, and the answers -/
theorem lw_tail {i K : Nat} {R x : Int32} {off : Int} (d0 : decode cL_law pc = .ok (.istore 7, 2)) (d2 : decode cL_law (pc + 2) = .ok (.aload_n 2, 1)) (d3 : decode cL_law (pc + 3) = .ok (.invokevirtual 168, 3)) (d6 : decode cL_law (pc + 6) = .ok (.iload 6, 2)) (d8 : decode cL_law (pc + 8) = .ok (.if_icmp .eq 5, 3)) (d13 : decode cL_law (pc + 13) = .ok (.iload 6, 2)) (d15 : decode cL_law (pc + 15) = .ok (.ifCond .ne 15, 3)) (d18 : decode cL_law (pc + 18) = .ok (.aload_n 3, 1)) (d19 : decode cL_law (pc + 19) = .ok (.iconst 0, 1)) (d20 : decode cL_law (pc + 20) = .ok (.laload, 1)) (d21 : decode cL_law (pc + 21) = .ok (.iload 7, 2)) (d23 : decode cL_law (pc + 23) = .ok (.i2l, 1)) (d24 : decode cL_law (pc + 24) = .ok (.lcmp, 1)) (d25 : decode cL_law (pc + 25) = .ok (.ifCond .eq 5, 3)) (d30 : decode cL_law (pc + 30) = .ok (.goto off, 3)) (hoff : ((pc + 30 : Nat) : Int) + off = ((2870 : Nat) : Int))
    (hK : K ≤ 100) (hu : u ≤ 100000) (h0 : xgi h 192 0 = nI K) (hx : K = 0 → x = R) (ho : K = 0 → h 202 0 = .long R.toInt64) (kk : ux_W l G (iW hh) room_1 (lZ G b Ln xs) 2870 [some (.ref (1000 + b)), some (.ref 176), some (.ref 192), some (.ref 202), some (.ref 203), some (.int (nI i)), none, none, none] [] h u) : ux_W l G (iW hh) room_1 (lZ G b Ln xs) pc [some (.ref (1000 + b)), some (.ref 176), some (.ref 192), some (.ref 202), some (.ref 203), some (.int (nI i)), some (.int (nI K)), none, none] [.int x] h u := by
  have hg : ux_W l G (iW hh) room_1 (lZ G b Ln xs) (pc + 30) [some (.ref (1000 + b)), some (.ref 176), some (.ref 192), some (.ref 202), some (.ref 203), some (.int (nI i)), some (.int (nI K)), some (.int x), none] [] h u := g_goto (tgt := 2870) d30 hoff (g_less l_less kk)
  refine s_iw d0 rfl rfl rfl ?_
  dsimp only [List.set]
  refine g_aload_n d2 rfl ?_
  refine f_V (u' := u) (av := []) (rest := []) lL_168 kX6_thrown mX6_thrown d3 rfl rfl rfl rfl rfl (ro_law (by decide) (by decide) (by decide) hu) rfl rfl ?_
  dsimp only [Option.toList, List.cons_append, List.nil_append]
  refine g_top h0 ?_
  refine g_iload d6 rfl ?_
  refine g_icmp_eq (tgt := pc + 13) d8 (by omega) (fun _ => ?_) (fun c => absurd rfl c)
  refine g_iload d13 rfl ?_
  refine g_if_ne (tgt := pc + 30) d15 (by omega) (fun _ => hg) (fun c => ?_)
  have k0 := nI_0K hK c
  refine g_aload_n d18 rfl ?_
  refine g_iconst (v := 0) d19 rfl ?_
  refine g_lald d20 rfl (show 0 < 1 by decide) rfl ?_
  have e : xgl h 202 0 = x.toInt64 := by unfold xgl; rw [ho k0, hx k0]
  rw [e]
  refine g_iload d21 rfl ?_
  refine g_i2l d23 ?_
  refine g_lcmp d24 ?_
  rw [lg_cmp_self]
  exact g_if_eq (tgt := pc + 30) d25 (by omega) (fun _ => hg) (fun c => absurd rfl c)
end UXLW
