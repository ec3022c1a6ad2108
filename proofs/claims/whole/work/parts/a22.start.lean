/-! THE LAW'S START: what the tables and the premises say. -/
theorem fl_at {b : Addr} {s : State} (hgv : (Jvm.Cond.and given_1 narrow_1).before #[Value.ref b] s = true) {n : Nat} {w : Cond} (h : (flatC (Jvm.Cond.and given_1 narrow_1))[n]? = some w) : w.before #[Value.ref b] s = true := flat_of_before _ hgv w (List.mem_of_getElem? h)
theorem tx_of {own tx : String} {k : Nat} {b : Addr} {s : State} (h1 : (Cond.stringRef own k tx).before #[Value.ref b] s = true) (h2 : (Cond.exactly (.string own k) "java/lang/String").before #[Value.ref b] s = true) : ∃ a, vk_R own k tx a s := by
  obtain ⟨a, c, cA, kA, q1, q2, q3, q4, q5, q6, -⟩ := Cond.exactly_spec (args := #[Value.ref b]) (first := s) (o := none) (s := s) (idx := []) (t := .string own k) (cls := "java/lang/String") h2
  exact ⟨a, vk_R.of h1 q1⟩
set_option maxRecDepth 100000 in
theorem tx_all {b : Addr} {s : State} (hts : ∀ w ∈ lw_tbl, w.before #[Value.ref b] s = true) (hgv : (Jvm.Cond.and given_1 narrow_1).before #[Value.ref b] s = true) : ∀ q ∈ ux_tx, ∃ a, vk_R q.1 q.2.1 q.2.2 a s :=
  List.forall_mem_cons.mpr ⟨tx_of (own := RX5) (hts _ (List.mem_of_getElem? (i := 530) (by decide +kernel))) (fl_at hgv (n := 88) (by decide +kernel)), List.forall_mem_cons.mpr ⟨tx_of (own := RX5) (hts _ (List.mem_of_getElem? (i := 566) (by decide +kernel))) (fl_at hgv (n := 116) (by decide +kernel)), List.forall_mem_cons.mpr ⟨tx_of (own := RX5) (hts _ (List.mem_of_getElem? (i := 639) (by decide +kernel))) (fl_at hgv (n := 140) (by decide +kernel)), List.forall_mem_cons.mpr ⟨tx_of (own := RX5) (hts _ (List.mem_of_getElem? (i := 678) (by decide +kernel))) (fl_at hgv (n := 167) (by decide +kernel)), List.forall_mem_cons.mpr ⟨tx_of (own := RX5) (hts _ (List.mem_of_getElem? (i := 694) (by decide +kernel))) (fl_at hgv (n := 227) (by decide +kernel)), List.forall_mem_cons.mpr ⟨tx_of (own := RX5) (hts _ (List.mem_of_getElem? (i := 721) (by decide +kernel))) (fl_at hgv (n := 262) (by decide +kernel)), List.forall_mem_cons.mpr ⟨tx_of (own := RX5) (hts _ (List.mem_of_getElem? (i := 728) (by decide +kernel))) (fl_at hgv (n := 324) (by decide +kernel)), List.forall_mem_cons.mpr ⟨tx_of (own := RX5) (hts _ (List.mem_of_getElem? (i := 793) (by decide +kernel))) (fl_at hgv (n := 348) (by decide +kernel)), List.forall_mem_cons.mpr ⟨tx_of (own := RX5) (hts _ (List.mem_of_getElem? (i := 805) (by decide +kernel))) (fl_at hgv (n := 399) (by decide +kernel)), List.forall_mem_cons.mpr ⟨tx_of (own := RX5) (hts _ (List.mem_of_getElem? (i := 869) (by decide +kernel))) (fl_at hgv (n := 437) (by decide +kernel)), List.forall_mem_cons.mpr ⟨tx_of (own := RX5) (hts _ (List.mem_of_getElem? (i := 887) (by decide +kernel))) (fl_at hgv (n := 476) (by decide +kernel)), List.forall_mem_cons.mpr ⟨tx_of (own := RX5) (hts _ (List.mem_of_getElem? (i := 956) (by decide +kernel))) (fl_at hgv (n := 505) (by decide +kernel)), List.forall_mem_cons.mpr ⟨tx_of (own := RX5) (hts _ (List.mem_of_getElem? (i := 968) (by decide +kernel))) (fl_at hgv (n := 537) (by decide +kernel)), List.forall_mem_cons.mpr ⟨tx_of (own := RX5) (hts _ (List.mem_of_getElem? (i := 1001) (by decide +kernel))) (fl_at hgv (n := 571) (by decide +kernel)), List.forall_mem_cons.mpr ⟨tx_of (own := RX5) (hts _ (List.mem_of_getElem? (i := 1009) (by decide +kernel))) (fl_at hgv (n := 606) (by decide +kernel)), List.forall_mem_cons.mpr ⟨tx_of (own := RX5) (hts _ (List.mem_of_getElem? (i := 1034) (by decide +kernel))) (fl_at hgv (n := 645) (by decide +kernel)), List.forall_mem_cons.mpr ⟨tx_of (own := RX5) (hts _ (List.mem_of_getElem? (i := 1041) (by decide +kernel))) (fl_at hgv (n := 698) (by decide +kernel)), List.forall_mem_cons.mpr ⟨tx_of (own := RX5) (hts _ (List.mem_of_getElem? (i := 1069) (by decide +kernel))) (fl_at hgv (n := 756) (by decide +kernel)), List.forall_mem_cons.mpr ⟨tx_of (own := RX5) (hts _ (List.mem_of_getElem? (i := 1094) (by decide +kernel))) (fl_at hgv (n := 778) (by decide +kernel)), List.forall_mem_cons.mpr ⟨tx_of (own := RX5) (hts _ (List.mem_of_getElem? (i := 1118) (by decide +kernel))) (fl_at hgv (n := 803) (by decide +kernel)), List.forall_mem_cons.mpr ⟨tx_of (own := RX5) (hts _ (List.mem_of_getElem? (i := 1162) (by decide +kernel))) (fl_at hgv (n := 843) (by decide +kernel)), List.forall_mem_cons.mpr ⟨tx_of (own := RX5) (hts _ (List.mem_of_getElem? (i := 1205) (by decide +kernel))) (fl_at hgv (n := 863) (by decide +kernel)), List.forall_mem_cons.mpr ⟨tx_of (own := RX5) (hts _ (List.mem_of_getElem? (i := 1213) (by decide +kernel))) (fl_at hgv (n := 902) (by decide +kernel)), List.forall_mem_cons.mpr ⟨tx_of (own := RX5) (hts _ (List.mem_of_getElem? (i := 1237) (by decide +kernel))) (fl_at hgv (n := 922) (by decide +kernel)), List.forall_mem_cons.mpr ⟨tx_of (own := RX5) (hts _ (List.mem_of_getElem? (i := 1285) (by decide +kernel))) (fl_at hgv (n := 943) (by decide +kernel)), List.forall_mem_cons.mpr ⟨tx_of (own := RX5) (hts _ (List.mem_of_getElem? (i := 1299) (by decide +kernel))) (fl_at hgv (n := 970) (by decide +kernel)), List.forall_mem_cons.mpr ⟨tx_of (own := RX5) (hts _ (List.mem_of_getElem? (i := 1307) (by decide +kernel))) (fl_at hgv (n := 997) (by decide +kernel)), List.forall_mem_cons.mpr ⟨tx_of (own := RX5) (hts _ (List.mem_of_getElem? (i := 1328) (by decide +kernel))) (fl_at hgv (n := 1027) (by decide +kernel)), List.forall_mem_cons.mpr ⟨tx_of (own := RX5) (hts _ (List.mem_of_getElem? (i := 1337) (by decide +kernel))) (fl_at hgv (n := 1057) (by decide +kernel)), List.forall_mem_cons.mpr ⟨tx_of (own := RX5) (hts _ (List.mem_of_getElem? (i := 1349) (by decide +kernel))) (fl_at hgv (n := 1084) (by decide +kernel)), fun _ h => absurd h List.not_mem_nil⟩⟩⟩⟩⟩⟩⟩⟩⟩⟩⟩⟩⟩⟩⟩⟩⟩⟩⟩⟩⟩⟩⟩⟩⟩⟩⟩⟩⟩⟩
set_option maxRecDepth 100000 in
theorem xs_all {b : Addr} {s : State} (hgv : (Jvm.Cond.and given_1 narrow_1).before #[Value.ref b] s = true) : ∀ a ∈ ux_xs, ∀ c ∈ ux_xs, a ≠ c → va_Nc a c s :=
  List.forall_mem_cons.mpr ⟨(List.forall_mem_cons.mpr ⟨(fun z => absurd rfl z), List.forall_mem_cons.mpr ⟨(fun _ => va_Nc.of (fl_at hgv (n := 31) (by decide +kernel))), List.forall_mem_cons.mpr ⟨(fun _ => va_Nc.of (fl_at hgv (n := 44) (by decide +kernel))), List.forall_mem_cons.mpr ⟨(fun _ => va_Nc.of (fl_at hgv (n := 56) (by decide +kernel))), List.forall_mem_cons.mpr ⟨(fun _ => va_Nc.of (fl_at hgv (n := 69) (by decide +kernel))), List.forall_mem_cons.mpr ⟨(fun _ => va_Nc.of (fl_at hgv (n := 82) (by decide +kernel))), fun _ h => absurd h List.not_mem_nil⟩⟩⟩⟩⟩⟩), List.forall_mem_cons.mpr ⟨(List.forall_mem_cons.mpr ⟨(fun _ => va_Nc.of (fl_at hgv (n := 18) (by decide +kernel))), List.forall_mem_cons.mpr ⟨(fun z => absurd rfl z), List.forall_mem_cons.mpr ⟨(fun _ => va_Nc.of (fl_at hgv (n := 45) (by decide +kernel))), List.forall_mem_cons.mpr ⟨(fun _ => va_Nc.of (fl_at hgv (n := 57) (by decide +kernel))), List.forall_mem_cons.mpr ⟨(fun _ => va_Nc.of (fl_at hgv (n := 70) (by decide +kernel))), List.forall_mem_cons.mpr ⟨(fun _ => va_Nc.of (fl_at hgv (n := 83) (by decide +kernel))), fun _ h => absurd h List.not_mem_nil⟩⟩⟩⟩⟩⟩), List.forall_mem_cons.mpr ⟨(List.forall_mem_cons.mpr ⟨(fun _ => va_Nc.of (fl_at hgv (n := 20) (by decide +kernel))), List.forall_mem_cons.mpr ⟨(fun _ => va_Nc.of (fl_at hgv (n := 33) (by decide +kernel))), List.forall_mem_cons.mpr ⟨(fun z => absurd rfl z), List.forall_mem_cons.mpr ⟨(fun _ => va_Nc.of (fl_at hgv (n := 59) (by decide +kernel))), List.forall_mem_cons.mpr ⟨(fun _ => va_Nc.of (fl_at hgv (n := 72) (by decide +kernel))), List.forall_mem_cons.mpr ⟨(fun _ => va_Nc.of (fl_at hgv (n := 85) (by decide +kernel))), fun _ h => absurd h List.not_mem_nil⟩⟩⟩⟩⟩⟩), List.forall_mem_cons.mpr ⟨(List.forall_mem_cons.mpr ⟨(fun _ => va_Nc.of (fl_at hgv (n := 21) (by decide +kernel))), List.forall_mem_cons.mpr ⟨(fun _ => va_Nc.of (fl_at hgv (n := 34) (by decide +kernel))), List.forall_mem_cons.mpr ⟨(fun _ => va_Nc.of (fl_at hgv (n := 46) (by decide +kernel))), List.forall_mem_cons.mpr ⟨(fun z => absurd rfl z), List.forall_mem_cons.mpr ⟨(fun _ => va_Nc.of (fl_at hgv (n := 73) (by decide +kernel))), List.forall_mem_cons.mpr ⟨(fun _ => va_Nc.of (fl_at hgv (n := 86) (by decide +kernel))), fun _ h => absurd h List.not_mem_nil⟩⟩⟩⟩⟩⟩), List.forall_mem_cons.mpr ⟨(List.forall_mem_cons.mpr ⟨(fun _ => va_Nc.of (fl_at hgv (n := 22) (by decide +kernel))), List.forall_mem_cons.mpr ⟨(fun _ => va_Nc.of (fl_at hgv (n := 35) (by decide +kernel))), List.forall_mem_cons.mpr ⟨(fun _ => va_Nc.of (fl_at hgv (n := 47) (by decide +kernel))), List.forall_mem_cons.mpr ⟨(fun _ => va_Nc.of (fl_at hgv (n := 60) (by decide +kernel))), List.forall_mem_cons.mpr ⟨(fun z => absurd rfl z), List.forall_mem_cons.mpr ⟨(fun _ => va_Nc.of (fl_at hgv (n := 87) (by decide +kernel))), fun _ h => absurd h List.not_mem_nil⟩⟩⟩⟩⟩⟩), List.forall_mem_cons.mpr ⟨(List.forall_mem_cons.mpr ⟨(fun _ => va_Nc.of (fl_at hgv (n := 23) (by decide +kernel))), List.forall_mem_cons.mpr ⟨(fun _ => va_Nc.of (fl_at hgv (n := 36) (by decide +kernel))), List.forall_mem_cons.mpr ⟨(fun _ => va_Nc.of (fl_at hgv (n := 48) (by decide +kernel))), List.forall_mem_cons.mpr ⟨(fun _ => va_Nc.of (fl_at hgv (n := 61) (by decide +kernel))), List.forall_mem_cons.mpr ⟨(fun _ => va_Nc.of (fl_at hgv (n := 74) (by decide +kernel))), List.forall_mem_cons.mpr ⟨(fun z => absurd rfl z), fun _ h => absurd h List.not_mem_nil⟩⟩⟩⟩⟩⟩), fun _ h => absurd h List.not_mem_nil⟩⟩⟩⟩⟩⟩
set_option maxRecDepth 100000 in
theorem cs_start {b : Addr} {s : State} {G : ux_G} (hG : G.1 = s.heap.size) (hts : ∀ w ∈ lw_tbl, w.before #[Value.ref b] s = true) (hgv : (Jvm.Cond.and given_1 narrow_1).before #[Value.ref b] s = true) : ux_cs G s s.heap := by
  have hA : ∀ a : Nat, a < s.heap.size → ¬ ux_A G a := fun a h y => by
    have y2 : G.1 ≤ a := y
    omega
  obtain ⟨adK, adV, h1, h2⟩ := vk_Sof (args := #[Value.ref b]) (s := s) (N := 1) (tm := fun _ => .string RX6 253) (len := [4]) (byt := [[99, 115, 112, 114]]) (A := ux_A G) (fun i hi => by rw [show i = 0 by omega]; decide)
    (fun i hi => (fl_at hgv (n := 1105) (by decide +kernel))) (fun i hi => (fl_at hgv (n := 1106) (by decide +kernel))) (fun i hi => (fl_at hgv (n := 1107) (by decide +kernel)))
    (fun i hi => by rw [show i = 0 by omega]; exact (fl_at hgv (n := 1108) (by decide +kernel)))
    (fun i hi j hj => by
      have e0 : i = 0 := by omega
      subst e0
      have hj4 : j < 4 := hj
      rcases (show j = 0 ∨ j = 1 ∨ j = 2 ∨ j = 3 by omega) with rfl | rfl | rfl | rfl
      · exact (fl_at hgv (n := 1109) (by decide +kernel))
      · exact (fl_at hgv (n := 1110) (by decide +kernel))
      · exact (fl_at hgv (n := 1111) (by decide +kernel))
      · exact (fl_at hgv (n := 1112) (by decide +kernel)))
    (fun i j hi hj h => absurd (show i = j by omega) h) hA
  refine ⟨adK 0, adV 0, vk_R.of (hts _ (List.mem_of_getElem? (i := 1795) (by decide +kernel))) (h2 0 (by decide)), ⟨fun i hi => ?_, fun i j hi hj _ => by omega⟩, ?_, ?_⟩
  · have := h1.1 0 (by decide)
    rw [show i = 0 by omega]
    exact this
  · exact va_Zof (hts _ (List.mem_of_getElem? (i := 1805) (by decide +kernel))) (hts _ (List.mem_of_getElem? (i := 152) (by decide +kernel))) (va_eqi (fl_at hgv (n := 6) (by decide +kernel))) hA
  · exact va_Zqof (hts _ (List.mem_of_getElem? (i := 1813) (by decide +kernel))) (hts _ (List.mem_of_getElem? (i := 158) (by decide +kernel))) (fl_at hgv (n := 7) (by decide +kernel)) hA
theorem ux_tin {b : Addr} {s : State} (hts : ∀ w ∈ lw_tbl, w.before #[Value.ref b] s = true) : ∀ w ∈ ux_T, w.before #[Value.ref b] s = true := fun w h => hts w (List.mem_filter.mp h).1
theorem k_start {b : Addr} {s : State} (hts : ∀ w ∈ lw_tbl, w.before #[Value.ref b] s = true) : ∃ (D : va_G) (cA : Nat → ClassId), ∀ (a0 : Nat) (ad : Nat → Nat), va_K D ux_cl (ux_ty (a0, ad, D, cA)) s := by
  have ht := ux_tin hts
  obtain ⟨c0, i0, k0⟩ := u_known (ws := ux_T) ht ux_iwX0 (ht _ jX0)
  obtain ⟨c1, i1, k1⟩ := u_known (ws := ux_T) ht ux_iwX1 (ht _ jX1)
  obtain ⟨c2, i2, k2⟩ := u_known (ws := ux_T) ht ux_iwX2 (ht _ jX2)
  obtain ⟨c3, i3, k3⟩ := u_known (ws := ux_T) ht ux_iwX3 (ht _ jX3)
  obtain ⟨c4, i4, k4⟩ := u_known (ws := ux_T) ht ux_iwX4 (ht _ jX4)
  obtain ⟨c5, i5, k5⟩ := u_known (ws := ux_T) ht ux_iwX5 (ht _ jX5)
  obtain ⟨c6, i6, k6⟩ := u_known (ws := ux_T) ht ux_iwX6 (ht _ jX6)
  obtain ⟨a0, x0', p0, q01, q02, q03⟩ := Cond.arrayClass_spec (args := #[Value.ref b]) (first := s) (o := none) (s := s) (idx := []) (type := .int) (ht _ w_ai)
  obtain ⟨a1, x1, p1, q11, q12, q13⟩ := Cond.arrayClass_spec (args := #[Value.ref b]) (first := s) (o := none) (s := s) (idx := []) (type := .char) (ht _ w_ac)
  obtain ⟨a2, x2, p2, q21, q22, q23⟩ := Cond.arrayClass_spec (args := #[Value.ref b]) (first := s) (o := none) (s := s) (idx := []) (type := .long) (ht _ w_al)
  obtain ⟨a3, x3, p3, q31, q32, q33⟩ := Cond.arrayClass_spec (args := #[Value.ref b]) (first := s) (o := none) (s := s) (idx := []) (type := .double) (ht _ w_ad)
  obtain ⟨p4, a4, x4, q41, q42, q43, q44, q45⟩ := Cond.arrayOver_spec (args := #[Value.ref b]) (first := s) (o := none) (idx := []) (n := RX4) (hts _ (List.mem_of_getElem? (i := 273) (by decide +kernel)))
  refine ⟨(fun k => match k with | 0 => c0 | 1 => c1 | 2 => c2 | 3 => c3 | 4 => c4 | 5 => c5 | _ => c6, fun k => match k with | 0 => i0 | 1 => i1 | 2 => i2 | 3 => i3 | 4 => i4 | 5 => i5 | _ => i6), fun k => match k with | 0 => a0 | 1 => a1 | 2 => a2 | 3 => a3 | _ => a4, fun z ad => ⟨fun k q hq => ?_, fun k q hq => ?_⟩⟩
  · match k, hq with
    | 0, hq => cases hq; exact k0
    | 1, hq => cases hq; exact k1
    | 2, hq => cases hq; exact k2
    | 3, hq => cases hq; exact k3
    | 4, hq => cases hq; exact k4
    | 5, hq => cases hq; exact k5
    | 6, hq => cases hq; exact k6
    | k + 7, hq => simp [ux_cl] at hq
  · match k, hq with
    | 0, hq => cases hq; exact ⟨fun n z => ⟨fun k h => (by cases h), x0', q02, p0, q03⟩, q01⟩
    | 1, hq => cases hq; exact ⟨fun n z => ⟨fun k h => (by cases h), x1, q12, p1, q13⟩, q11⟩
    | 2, hq => cases hq; exact ⟨fun n z => ⟨fun k h => (by cases h), x2, q22, p2, q23⟩, q21⟩
    | 3, hq => cases hq; exact ⟨fun n z => ⟨fun k h => (by cases h), x3, q32, p3, q33⟩, q31⟩
    | 4, hq => cases hq; exact ⟨fun n z => ⟨fun k h => (by cases h), x4, q43, p4, q44⟩, x4, p4, q43, q44, q41, q45⟩
    | k + 5, hq => simp [ux_ty] at hq
theorem wf_start {b : Addr} {s : State} {l : Launch} {G : ux_G} (hflags : l.flags = flags0) (al : ux_al G) (hG : G.1 = s.heap.size) (hK : va_K G.2.2.1 ux_cl (ux_ty G) s) (hts : ∀ w ∈ lw_tbl, w.before #[Value.ref b] s = true) (hgv : (Jvm.Cond.and given_1 narrow_1).before #[Value.ref b] s = true) : ux_wf l G s := by
  have hA : ∀ a : Nat, a < s.heap.size → ¬ ux_A G a := fun a h y => by
    have y2 : G.1 ≤ a := y
    omega
  refine ⟨ux_al_ok al, ?_, fun w hw => ?_, vx_Zqof (hts _ (List.mem_of_getElem? (i := 512) (by decide +kernel))) (hts _ (List.mem_of_getElem? (i := 144) (by decide +kernel))) (fl_at hgv (n := 4) (by decide +kernel)) hA, vx_Zqof (hts _ (List.mem_of_getElem? (i := 514) (by decide +kernel))) (hts _ (List.mem_of_getElem? (i := 144) (by decide +kernel))) (fl_at hgv (n := 5) (by decide +kernel)) hA, tx_all hts hgv, xs_all hgv, hK, Nat.le_of_eq hG, cs_start hG hts hgv⟩
  · unfold Launch.stackTraces
    rw [hflags]
    decide +kernel
  · have h := hts w (List.mem_filter.mp hw).1
    have hn := (List.mem_filter.mp hw).2
    have ho : w.onTables = true := by
      cases w <;> first | rfl | (exfalso; revert hn; unfold ux_nst; exact fun z => Bool.noConfusion z)
    exact va_Nw.of ho h
