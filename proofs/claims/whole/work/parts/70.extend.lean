/-! THE CLASS: the planner goes through the plans: by how many lessons are left. -/
def pl_H (A : Ab) (Ls : List Nat) (P d : Nat) : Prop := Inv P A ∧ P + 100 ≤ 10000000 ∧ Ls.length ≤ 4 ∧ Ls.Nodup ∧ ∀ j, j ∈ Ls → j < A.2.1 ∧ aF A 13 j = -1 ∧ aF A 8 j / 6 = (d : Int)
def pl_S (A : Ab) (Ls : List Nat) (d : Nat) (B : Ab) (pre : List Nat) (a : pl_A) (h : ux_H) : Prop := rPs A B (d : Int) h ∧ rPc A Ls h ∧ rPp pre h ∧ rPa Ls.length a h
set_option maxRecDepth 100000 in
theorem mX3_extend0 {l : Launch} {G : ux_G} {h : ux_H} {A : Ab} {Ls : List Nat} {P d : Nat} (hH : pl_H A Ls P d) {R : List Nat} {B : Ab} {pre : List Nat} {a : pl_A} {PB c : Nat} (hR : pl_R A Ls pre B) (hB : Inv PB B) (hPB : PB + 6 * R.length ≤ 10000000) (hd : Ls.drop pre.length = R) (hpb : ∀ (k u : Nat), pre[k]? = some u → u < 8) (hk : okA c a) (hcc : c + 8 ^ R.length ≤ 500000) (hS : pl_S A Ls d B pre a h) (hr : R.length = 0) : ux_M l G yX3_extend iX3_extend 5 0 [.ref 179, .int (nI pre.length)] h (fun v h' => v = none ∧ pl_S A Ls d B pre (pl_go R B pre a) h' ∧ x_frK h h') (fun _ _ => False) := by
  refine ux_ent (L' := [some (.ref 179), some (.int (nI pre.length)), none]) kX3_extend rfl rfl rfl rfl ?_
  have hc5 : c ≤ 500000 := Nat.le_trans (Nat.le_add_right _ _) hcc
  have dl := congrArg List.length hd
  rw [List.length_drop] at dl
  have l4 := hH.2.2.1
  have ll := hR.len
  refine g_iload_n dX3_extend_0 rfl ?_
  refine g_aload_n dX3_extend_1 rfl ?_
  refine g_geti fX3_40 dX3_extend_2 rfl rfl ?_
  refine g_top hS.2.1.1 ?_
  refine g_icmp_ge (tgt := 13) dX3_extend_5 (by decide) (fun c5 => ?_) (fun c5 => ?_)
  · refine g_aload_n dX3_extend_13 rfl ?_
    refine f0_V (u' := 0) lX3_100 kX3_judge (mX3_judge hB hR.tc hS.1 hS.2.2.2 (by have := hk.1; omega) hk.2) dX3_extend_14 rfl rfl rfl rfl rfl rfl rfl rfl ?_
    refine g_return dX3_extend_17 rfl (by decide) ?_
    have e : pl_go R B pre a = pl_jd B pre a := by rw [List.length_eq_zero_iff.mp hr]; rfl
    rw [e]
    refine ⟨rfl, ⟨⟨(x_jd_g _ _ _ _ (by omega)).trans hS.1.1, fun t ht => ?_⟩, ⟨(x_jd_g _ _ _ _ (by omega)).trans hS.2.1.1, fun k i hki => ?_⟩, fun k t hkt => (x_jd_g _ _ _ _ (by omega)).trans (hS.2.2.1 k t hkt), rPa_jd hS.2.2.2 hS.2.2.1 (by omega) hH.2.2.1⟩, x_frK_jd _ _ _ _⟩
    · rw [x_jd_g _ _ _ _ (k := 185) (by omega), x_jd_g _ _ _ _ (k := 186) (by omega)]; exact hS.1.2 t ht
    · rw [x_jd_g _ _ _ _ (k := 180) (by omega), x_jd_g _ _ _ _ (k := 181) (by omega), x_jd_g _ _ _ _ (k := 182) (by omega)]
      obtain ⟨c1, c2, c3⟩ := hS.2.1.2 k i hki
      refine ⟨c1, c2, fun t ht => ?_⟩
      rw [x_jd_g _ _ _ _ (k := 187) (by omega)]
      exact c3 t ht
  · exact absurd ((nI_leI (by omega) (by omega)).mpr (by omega)) c5
theorem pl_drop {Ls R : List Nat} {n i : Nat} (h : Ls.drop n = i :: R) : Ls[n]? = some i ∧ Ls.drop (n + 1) = R := by
  constructor
  · rw [← List.head?_drop, h]; rfl
  · rw [← List.drop_drop, h]; rfl
theorem pl_go_c (i : Nat) (R : List Nat) (B : Ab) (pre : List Nat) (a : pl_A) : pl_go (i :: R) B pre a = pl_fo (fun t a => if s_bar B i t = 0 then pl_go R (s_begin B i t) (pre ++ [t]) a else a) B.1 a := rfl
theorem s_worth_R {A B : Ab} {Ls pre : List Nat} (h : pl_R A Ls pre B) (i t : Nat) : s_worth B i t = s_worth A i t := by
  unfold s_worth; rw [h.same 8 i (by decide) (by decide), h.same 1 t (by decide) (by decide), h.same 10 i (by decide) (by decide)]
theorem s_share_R {A B : Ab} {Ls pre : List Nat} (h : pl_R A Ls pre B) (t : Nat) (p : Int) : s_share B t p = s_share A t p := by
  unfold s_share; rw [h.same 2 t (by decide) (by decide)]
set_option maxRecDepth 100000 in
theorem wX3_extend1 {l : Launch} {G : ux_G} {h0 : ux_H} {A : Ab} {Ls : List Nat} {P d : Nat} (hH : pl_H A Ls P d) {R : List Nat} {B : Ab} {pre : List Nat} {a0 : pl_A} {PB c i : Nat} (hR : pl_R A Ls pre B) (hB : Inv PB B) (hPB : PB + 6 * (R.length + 1) ≤ 10000000) (hi : Ls[pre.length]? = some i) (hd : Ls.drop (pre.length + 1) = R) (hpb : ∀ (k u : Nat), pre[k]? = some u → u < 8) (hk : okA c a0) (hcc : c + 8 ^ (R.length + 1) ≤ 500000) (hr : R.length = 0) : ∀ (n : Nat) (t : Nat) (h : ux_H), t ≤ A.1 → pl_S A Ls d B pre (pl_fo (fun t a => if s_bar B i t = 0 then pl_go R (s_begin B i t) (pre ++ [t]) a else a) t a0) h → x_frK h0 h → A.1 - t < n → ux_W l G iX3_extend (ux_rm 6 0) (ux_Z G 0 (fun v h' => v = none ∧ pl_S A Ls d B pre (pl_fo (fun t a => if s_bar B i t = 0 then pl_go R (s_begin B i t) (pre ++ [t]) a else a) B.1 a0) h' ∧ x_frK h0 h') (fun _ _ => False)) 20 [some (.ref 179), some (.int (nI pre.length)), some (.int (nI t))] [] (h) 0 := by
  intro n
  induction n with
  | zero => intro t h htt hS hF hn; exact absurd hn (Nat.not_lt_zero _)
  | succ n ih =>
    intro t h htt hS hF hn
    obtain ⟨i1, i2, i3, i4, i5, i6⟩ := id hH.1
    have etc := hR.tc
    have l4 := hH.2.2.1
    have hil := (List.getElem?_eq_some_iff.mp hi).1
    obtain ⟨hm1, hm2, hm3⟩ := hH.2.2.2.2 i (List.mem_of_getElem? hi)
    have hno : ∀ k, k < pre.length → Ls[k]? ≠ some i := fun k hk9 y => by
      have := (List.getElem?_inj (List.getElem?_eq_some_iff.mp y).1 hH.2.2.2.1).mp (y.trans hi.symm)
      omega
    refine g_iload_n dX3_extend_20 rfl ?_
    refine g_aload_n dX3_extend_21 rfl ?_
    refine g_geti fX3_36 dX3_extend_22 rfl rfl ?_
    refine g_top hS.1.1 ?_
    refine g_icmp_ge (tgt := 64) dX3_extend_25 (by decide) (fun c25 => ?_) (fun c25 => ?_)
    · have e : t = B.1 := by have := xlt_i c25 (by omega) (by omega); omega
      subst e
      refine g_return dX3_extend_64 rfl (by decide) ?_
      exact ⟨rfl, hS, hF⟩
    · have hlt : t < A.1 := xnl_i c25 (by omega) (by omega)
      have ec : s_bar B i t = 0 ∨ ¬ s_bar B i t = 0 := Decidable.em _
      refine g_aload_n dX3_extend_28 rfl ?_
      refine g_iload_n dX3_extend_29 rfl ?_
      refine g_iload_n dX3_extend_30 rfl ?_
      refine f1_V (u' := 0) lX3_103 kX3_canTake (mX3_canTake hH.1 hi hH.2.2.1 hH.2.2.2.2 hR hS.1 hS.2.1 hS.2.2.1 hlt hpb) dX3_extend_31 rfl rfl rfl rfl rfl rfl rfl rfl ?_
      refine g_if_eq (tgt := 58) dX3_extend_34 (by decide) (fun c34 => ?_) (fun c34 => ?_)
      · have qx34q : ¬ s_bar B i t = 0 := xb_0.mp c34
        have ef : pl_fo (fun t a => if s_bar B i t = 0 then pl_go R (s_begin B i t) (pre ++ [t]) a else a) (t + 1) a0 = pl_fo (fun t a => if s_bar B i t = 0 then pl_go R (s_begin B i t) (pre ++ [t]) a else a) t a0 := by show (if s_bar B i t = 0 then _ else _) = _; rw [if_neg qx34q]
        refine s_inc (v := nI (t + 1)) dX3_extend_58 rfl nI_s rfl rfl rfl ?_
        dsimp only [List.set]
        refine g_goto (tgt := 20) dX3_extend_61 (by decide) ?_
        first
        | exact ih (t + 1) _ (by omega) (by rw [ef]; exact hS) hF (by omega)
        | exact ih (t + 1) _ (by omega) (by rw [ef]; exact ⟨rPs_gv hS3.1 (by rw [kc t d, if_pos ⟨rfl, kd⟩]; omega) (by rw [ks t, if_pos rfl, wq]; omega) (fun k hk9 => ⟨by rw [kc k d, if_neg (fun y => hk9 y.1)]; rfl, by rw [ks k, if_neg hk9]⟩), rPc_gv hS3.2.1, rPp_gv0 (fun k u hu => hS3.2.2.1 k u (by rw [List.getElem?_append_left (List.getElem?_eq_some_iff.mp hu).1]; exact hu)), rPa_gv hS3.2.2.2⟩) (x_frK_tr hF (x_frK_tr (x_frK_gv _ _ _ _ _) (x_frK_tr hF3 (x_frK_gv _ _ _ _ _)))) (by omega)
      · have q34 : s_bar B i t = 0 := xb_n0 c34
        have ef : pl_fo (fun t a => if s_bar B i t = 0 then pl_go R (s_begin B i t) (pre ++ [t]) a else a) (t + 1) a0 = pl_go R (s_begin B i t) (pre ++ [t]) (pl_fo (fun t a => if s_bar B i t = 0 then pl_go R (s_begin B i t) (pre ++ [t]) a else a) t a0) := by show (if s_bar B i t = 0 then _ else _) = _; rw [if_pos q34]
        have kc := begin_con (A := B) (i := i) (t := t) (by rw [hR.lc]; exact hm1) (by rw [hR.oth i hno]; exact hm2)
        have kd : aF B 8 i / 6 = (d : Int) := by rw [hR.same 8 i (by decide) (by decide)]; exact hm3
        have ks := begin_shr hB (i := i) (t := t) (by rw [hR.tc]; exact hlt)
        have hR2 := pl_RS (t := t) hR hH.2.2.2.1 hi
        have hB2 := s_begin_I (i := i) (t := t) hB (by rw [hR.tc]; exact hlt) (by omega)
        have wq : s_share B t (s_worth B i t) = s_share A t (s_worth A i t) := by rw [s_share_R hR, s_worth_R hR]
        refine g_aload_n dX3_extend_37 rfl ?_
        refine g_iload_n dX3_extend_38 rfl ?_
        refine g_iload_n dX3_extend_39 rfl ?_
        refine g_iconst (v := 1) dX3_extend_40 (by decide) ?_
        refine f0_V (u' := 0) lX3_107 kX3_give (mX3_give (n := pre.length) (t := t) (s := 1) (c0 := aF A 3 t - s_con B t d) (s0 := s_shr B t) (w0 := s_share A t (s_worth A i t)) (by omega) (by omega) (hS.1.2 t hlt).2 (hS.1.2 t hlt).1 ((hS.2.1.2 _ i hi).2.2 t hlt).2) dX3_extend_41 rfl rfl rfl rfl rfl rfl rfl rfl ?_
        refine g_aload_n dX3_extend_44 rfl ?_
        refine g_iload_n dX3_extend_45 rfl ?_
        refine g_iconst (v := 1) dX3_extend_46 (by decide) ?_
        refine g_iadd dX3_extend_47 ?_
        refine g_top (y := nI (pre ++ [t]).length) (by rw [List.length_append]; exact nI_1 _) ?_
        have hS2 : pl_S A Ls d (s_begin B i t) (pre ++ [t]) (pl_fo (fun t a => if s_bar B i t = 0 then pl_go R (s_begin B i t) (pre ++ [t]) a else a) t a0) (x_gv h pre.length t (aF A 3 t - s_con B t d - 1) (s_shr B t + 1 * s_share A t (s_worth A i t))) := ⟨rPs_gv hS.1 (by rw [kc t d, if_pos ⟨rfl, kd⟩]; omega) (by rw [ks t, if_pos rfl, wq]; omega) (fun k hk9 => ⟨by rw [kc k d, if_neg (fun y => hk9 y.1)]; rfl, by rw [ks k, if_neg hk9]⟩), rPc_gv hS.2.1, rPp_gv hS.2.2.1, rPa_gv hS.2.2.2⟩
        have hpb2 : ∀ (k u : Nat), (pre ++ [t])[k]? = some u → u < 8 := fun k u hu => by
          rcases List.mem_append.mp (List.mem_of_getElem? hu) with q | q
          · obtain ⟨k9, hk9⟩ := List.getElem?_of_mem q
            exact hpb k9 u hk9
          · rw [List.mem_singleton.mp q]; omega
        have hk2 : okA (c + t * 8 ^ R.length) (pl_fo (fun t a => if s_bar B i t = 0 then pl_go R (s_begin B i t) (pre ++ [t]) a else a) t a0) := okA_fo (m := B.1) (fun u c9 a9 hu ha9 => by
          by_cases y : s_bar B i u = 0
          · show okA _ (if s_bar B i u = 0 then _ else _)
            rw [if_pos y]
            exact okA_go R (s_begin_I hB hu (by omega)) (by omega) ha9
          · show okA _ (if s_bar B i u = 0 then _ else _)
            rw [if_neg y]
            exact okA_mono ha9 (Nat.le_add_right _ _)) hk t (by omega)
        have hcc2 : c + t * 8 ^ R.length + 8 ^ R.length ≤ 500000 := by
          have e9 : (t + 1) * 8 ^ R.length ≤ 8 * 8 ^ R.length := Nat.mul_le_mul_right _ (by omega)
          rw [Nat.succ_mul] at e9
          rw [Nat.pow_succ, Nat.mul_comm (8 ^ R.length) 8] at hcc
          omega
        refine q_S (u' := 0) lX3_86 kX3_extend (mX3_extend0 hH (R := R) (B := s_begin B i t) (pre := pre ++ [t]) (a := pl_fo (fun t a => if s_bar B i t = 0 then pl_go R (s_begin B i t) (pre ++ [t]) a else a) t a0) hR2 hB2 (by omega) (by rw [List.length_append]; exact hd) hpb2 hk2 hcc2 hS2 hr) dX3_extend_48 rfl rfl rfl rfl rfl rfl (fun v h48 hq => ?_) (fun _ _ q => q.elim)
        obtain ⟨rfl, hS3, hF3⟩ := hq
        dsimp only [Option.toList, List.cons_append, List.nil_append]
        refine g_aload_n dX3_extend_51 rfl ?_
        refine g_iload_n dX3_extend_52 rfl ?_
        refine g_iload_n dX3_extend_53 rfl ?_
        refine g_iconst (v := (-1)) dX3_extend_54 (by decide) ?_
        refine f0_V (u' := 0) lX3_107 kX3_give (mX3_give (n := pre.length) (t := t) (s := -1) (c0 := aF A 3 t - s_con (s_begin B i t) t d) (s0 := s_shr (s_begin B i t) t) (w0 := s_share A t (s_worth A i t)) (by omega) (by omega) (hS3.1.2 t hlt).2 (hS3.1.2 t hlt).1 ((hS3.2.1.2 _ i hi).2.2 t hlt).2) dX3_extend_55 rfl rfl rfl rfl rfl rfl rfl rfl ?_
        refine s_inc (v := nI (t + 1)) dX3_extend_58 rfl nI_s rfl rfl rfl ?_
        dsimp only [List.set]
        refine g_goto (tgt := 20) dX3_extend_61 (by decide) ?_
        first
        | exact ih (t + 1) _ (by omega) (by rw [ef]; exact hS) hF (by omega)
        | exact ih (t + 1) _ (by omega) (by rw [ef]; exact ⟨rPs_gv hS3.1 (by rw [kc t d, if_pos ⟨rfl, kd⟩]; omega) (by rw [ks t, if_pos rfl, wq]; omega) (fun k hk9 => ⟨by rw [kc k d, if_neg (fun y => hk9 y.1)]; rfl, by rw [ks k, if_neg hk9]⟩), rPc_gv hS3.2.1, rPp_gv0 (fun k u hu => hS3.2.2.1 k u (by rw [List.getElem?_append_left (List.getElem?_eq_some_iff.mp hu).1]; exact hu)), rPa_gv hS3.2.2.2⟩) (x_frK_tr hF (x_frK_tr (x_frK_gv _ _ _ _ _) (x_frK_tr hF3 (x_frK_gv _ _ _ _ _)))) (by omega)
set_option maxRecDepth 100000 in
theorem mX3_extend1 {l : Launch} {G : ux_G} {h : ux_H} {A : Ab} {Ls : List Nat} {P d : Nat} (hH : pl_H A Ls P d) {R : List Nat} {B : Ab} {pre : List Nat} {a : pl_A} {PB c : Nat} (hR : pl_R A Ls pre B) (hB : Inv PB B) (hPB : PB + 6 * R.length ≤ 10000000) (hd : Ls.drop pre.length = R) (hpb : ∀ (k u : Nat), pre[k]? = some u → u < 8) (hk : okA c a) (hcc : c + 8 ^ R.length ≤ 500000) (hS : pl_S A Ls d B pre a h) (hr : R.length = 1) : ux_M l G yX3_extend iX3_extend 6 0 [.ref 179, .int (nI pre.length)] h (fun v h' => v = none ∧ pl_S A Ls d B pre (pl_go R B pre a) h' ∧ x_frK h h') (fun _ _ => False) := by
  refine ux_ent (L' := [some (.ref 179), some (.int (nI pre.length)), none]) kX3_extend rfl rfl rfl rfl ?_
  have dl := congrArg List.length hd
  rw [List.length_drop] at dl
  have l4 := hH.2.2.1
  have ll := hR.len
  refine g_iload_n dX3_extend_0 rfl ?_
  refine g_aload_n dX3_extend_1 rfl ?_
  refine g_geti fX3_40 dX3_extend_2 rfl rfl ?_
  refine g_top hS.2.1.1 ?_
  refine g_icmp_ge (tgt := 13) dX3_extend_5 (by decide) (fun c5 => ?_) (fun c5 => ?_)
  · exact absurd (xlt_i c5 (by omega) (by omega)) (by omega)
  · refine g_iload_n dX3_extend_8 rfl ?_
    refine g_iconst (v := 4) dX3_extend_9 (by decide) ?_
    refine g_icmp_lt (tgt := 18) dX3_extend_10 (by decide) (fun c10 => ?_) (fun c10 => ?_)
    · refine g_iconst (v := 0) dX3_extend_18 (by decide) ?_
      refine s_i (i := 2) dX3_extend_19 rfl rfl rfl rfl ?_
      dsimp only [List.set]
      obtain ⟨i, R2, rfl⟩ : ∃ i R2, R = i :: R2 := by cases R with | nil => cases hr | cons i R2 => exact ⟨i, R2, rfl⟩
      obtain ⟨e1, e2⟩ := pl_drop hd
      rw [pl_go_c]
      exact wX3_extend1 (h0 := h) hH hR hB hPB e1 e2 hpb hk hcc (by simpa using hr) (A.1 + 1) 0 h (Nat.zero_le _) hS (x_frK_rf h) (by omega)
    · exact absurd (show nI pre.length < 4 by rw [nI_iI, show (4 : Int32) = iI 4 by decide, iI_lt (by omega) (by omega) (by omega) (by omega)]; omega) c10
set_option maxRecDepth 100000 in
theorem wX3_extend2 {l : Launch} {G : ux_G} {h0 : ux_H} {A : Ab} {Ls : List Nat} {P d : Nat} (hH : pl_H A Ls P d) {R : List Nat} {B : Ab} {pre : List Nat} {a0 : pl_A} {PB c i : Nat} (hR : pl_R A Ls pre B) (hB : Inv PB B) (hPB : PB + 6 * (R.length + 1) ≤ 10000000) (hi : Ls[pre.length]? = some i) (hd : Ls.drop (pre.length + 1) = R) (hpb : ∀ (k u : Nat), pre[k]? = some u → u < 8) (hk : okA c a0) (hcc : c + 8 ^ (R.length + 1) ≤ 500000) (hr : R.length = 1) : ∀ (n : Nat) (t : Nat) (h : ux_H), t ≤ A.1 → pl_S A Ls d B pre (pl_fo (fun t a => if s_bar B i t = 0 then pl_go R (s_begin B i t) (pre ++ [t]) a else a) t a0) h → x_frK h0 h → A.1 - t < n → ux_W l G iX3_extend (ux_rm 7 0) (ux_Z G 0 (fun v h' => v = none ∧ pl_S A Ls d B pre (pl_fo (fun t a => if s_bar B i t = 0 then pl_go R (s_begin B i t) (pre ++ [t]) a else a) B.1 a0) h' ∧ x_frK h0 h') (fun _ _ => False)) 20 [some (.ref 179), some (.int (nI pre.length)), some (.int (nI t))] [] (h) 0 := by
  intro n
  induction n with
  | zero => intro t h htt hS hF hn; exact absurd hn (Nat.not_lt_zero _)
  | succ n ih =>
    intro t h htt hS hF hn
    obtain ⟨i1, i2, i3, i4, i5, i6⟩ := id hH.1
    have etc := hR.tc
    have l4 := hH.2.2.1
    have hil := (List.getElem?_eq_some_iff.mp hi).1
    obtain ⟨hm1, hm2, hm3⟩ := hH.2.2.2.2 i (List.mem_of_getElem? hi)
    have hno : ∀ k, k < pre.length → Ls[k]? ≠ some i := fun k hk9 y => by
      have := (List.getElem?_inj (List.getElem?_eq_some_iff.mp y).1 hH.2.2.2.1).mp (y.trans hi.symm)
      omega
    refine g_iload_n dX3_extend_20 rfl ?_
    refine g_aload_n dX3_extend_21 rfl ?_
    refine g_geti fX3_36 dX3_extend_22 rfl rfl ?_
    refine g_top hS.1.1 ?_
    refine g_icmp_ge (tgt := 64) dX3_extend_25 (by decide) (fun c25 => ?_) (fun c25 => ?_)
    · have e : t = B.1 := by have := xlt_i c25 (by omega) (by omega); omega
      subst e
      refine g_return dX3_extend_64 rfl (by decide) ?_
      exact ⟨rfl, hS, hF⟩
    · have hlt : t < A.1 := xnl_i c25 (by omega) (by omega)
      have ec : s_bar B i t = 0 ∨ ¬ s_bar B i t = 0 := Decidable.em _
      refine g_aload_n dX3_extend_28 rfl ?_
      refine g_iload_n dX3_extend_29 rfl ?_
      refine g_iload_n dX3_extend_30 rfl ?_
      refine f1_V (u' := 0) lX3_103 kX3_canTake (mX3_canTake hH.1 hi hH.2.2.1 hH.2.2.2.2 hR hS.1 hS.2.1 hS.2.2.1 hlt hpb) dX3_extend_31 rfl rfl rfl rfl rfl rfl rfl rfl ?_
      refine g_if_eq (tgt := 58) dX3_extend_34 (by decide) (fun c34 => ?_) (fun c34 => ?_)
      · have qx34q : ¬ s_bar B i t = 0 := xb_0.mp c34
        have ef : pl_fo (fun t a => if s_bar B i t = 0 then pl_go R (s_begin B i t) (pre ++ [t]) a else a) (t + 1) a0 = pl_fo (fun t a => if s_bar B i t = 0 then pl_go R (s_begin B i t) (pre ++ [t]) a else a) t a0 := by show (if s_bar B i t = 0 then _ else _) = _; rw [if_neg qx34q]
        refine s_inc (v := nI (t + 1)) dX3_extend_58 rfl nI_s rfl rfl rfl ?_
        dsimp only [List.set]
        refine g_goto (tgt := 20) dX3_extend_61 (by decide) ?_
        first
        | exact ih (t + 1) _ (by omega) (by rw [ef]; exact hS) hF (by omega)
        | exact ih (t + 1) _ (by omega) (by rw [ef]; exact ⟨rPs_gv hS3.1 (by rw [kc t d, if_pos ⟨rfl, kd⟩]; omega) (by rw [ks t, if_pos rfl, wq]; omega) (fun k hk9 => ⟨by rw [kc k d, if_neg (fun y => hk9 y.1)]; rfl, by rw [ks k, if_neg hk9]⟩), rPc_gv hS3.2.1, rPp_gv0 (fun k u hu => hS3.2.2.1 k u (by rw [List.getElem?_append_left (List.getElem?_eq_some_iff.mp hu).1]; exact hu)), rPa_gv hS3.2.2.2⟩) (x_frK_tr hF (x_frK_tr (x_frK_gv _ _ _ _ _) (x_frK_tr hF3 (x_frK_gv _ _ _ _ _)))) (by omega)
      · have q34 : s_bar B i t = 0 := xb_n0 c34
        have ef : pl_fo (fun t a => if s_bar B i t = 0 then pl_go R (s_begin B i t) (pre ++ [t]) a else a) (t + 1) a0 = pl_go R (s_begin B i t) (pre ++ [t]) (pl_fo (fun t a => if s_bar B i t = 0 then pl_go R (s_begin B i t) (pre ++ [t]) a else a) t a0) := by show (if s_bar B i t = 0 then _ else _) = _; rw [if_pos q34]
        have kc := begin_con (A := B) (i := i) (t := t) (by rw [hR.lc]; exact hm1) (by rw [hR.oth i hno]; exact hm2)
        have kd : aF B 8 i / 6 = (d : Int) := by rw [hR.same 8 i (by decide) (by decide)]; exact hm3
        have ks := begin_shr hB (i := i) (t := t) (by rw [hR.tc]; exact hlt)
        have hR2 := pl_RS (t := t) hR hH.2.2.2.1 hi
        have hB2 := s_begin_I (i := i) (t := t) hB (by rw [hR.tc]; exact hlt) (by omega)
        have wq : s_share B t (s_worth B i t) = s_share A t (s_worth A i t) := by rw [s_share_R hR, s_worth_R hR]
        refine g_aload_n dX3_extend_37 rfl ?_
        refine g_iload_n dX3_extend_38 rfl ?_
        refine g_iload_n dX3_extend_39 rfl ?_
        refine g_iconst (v := 1) dX3_extend_40 (by decide) ?_
        refine f0_V (u' := 0) lX3_107 kX3_give (mX3_give (n := pre.length) (t := t) (s := 1) (c0 := aF A 3 t - s_con B t d) (s0 := s_shr B t) (w0 := s_share A t (s_worth A i t)) (by omega) (by omega) (hS.1.2 t hlt).2 (hS.1.2 t hlt).1 ((hS.2.1.2 _ i hi).2.2 t hlt).2) dX3_extend_41 rfl rfl rfl rfl rfl rfl rfl rfl ?_
        refine g_aload_n dX3_extend_44 rfl ?_
        refine g_iload_n dX3_extend_45 rfl ?_
        refine g_iconst (v := 1) dX3_extend_46 (by decide) ?_
        refine g_iadd dX3_extend_47 ?_
        refine g_top (y := nI (pre ++ [t]).length) (by rw [List.length_append]; exact nI_1 _) ?_
        have hS2 : pl_S A Ls d (s_begin B i t) (pre ++ [t]) (pl_fo (fun t a => if s_bar B i t = 0 then pl_go R (s_begin B i t) (pre ++ [t]) a else a) t a0) (x_gv h pre.length t (aF A 3 t - s_con B t d - 1) (s_shr B t + 1 * s_share A t (s_worth A i t))) := ⟨rPs_gv hS.1 (by rw [kc t d, if_pos ⟨rfl, kd⟩]; omega) (by rw [ks t, if_pos rfl, wq]; omega) (fun k hk9 => ⟨by rw [kc k d, if_neg (fun y => hk9 y.1)]; rfl, by rw [ks k, if_neg hk9]⟩), rPc_gv hS.2.1, rPp_gv hS.2.2.1, rPa_gv hS.2.2.2⟩
        have hpb2 : ∀ (k u : Nat), (pre ++ [t])[k]? = some u → u < 8 := fun k u hu => by
          rcases List.mem_append.mp (List.mem_of_getElem? hu) with q | q
          · obtain ⟨k9, hk9⟩ := List.getElem?_of_mem q
            exact hpb k9 u hk9
          · rw [List.mem_singleton.mp q]; omega
        have hk2 : okA (c + t * 8 ^ R.length) (pl_fo (fun t a => if s_bar B i t = 0 then pl_go R (s_begin B i t) (pre ++ [t]) a else a) t a0) := okA_fo (m := B.1) (fun u c9 a9 hu ha9 => by
          by_cases y : s_bar B i u = 0
          · show okA _ (if s_bar B i u = 0 then _ else _)
            rw [if_pos y]
            exact okA_go R (s_begin_I hB hu (by omega)) (by omega) ha9
          · show okA _ (if s_bar B i u = 0 then _ else _)
            rw [if_neg y]
            exact okA_mono ha9 (Nat.le_add_right _ _)) hk t (by omega)
        have hcc2 : c + t * 8 ^ R.length + 8 ^ R.length ≤ 500000 := by
          have e9 : (t + 1) * 8 ^ R.length ≤ 8 * 8 ^ R.length := Nat.mul_le_mul_right _ (by omega)
          rw [Nat.succ_mul] at e9
          rw [Nat.pow_succ, Nat.mul_comm (8 ^ R.length) 8] at hcc
          omega
        refine q_S (u' := 0) lX3_86 kX3_extend (mX3_extend1 hH (R := R) (B := s_begin B i t) (pre := pre ++ [t]) (a := pl_fo (fun t a => if s_bar B i t = 0 then pl_go R (s_begin B i t) (pre ++ [t]) a else a) t a0) hR2 hB2 (by omega) (by rw [List.length_append]; exact hd) hpb2 hk2 hcc2 hS2 hr) dX3_extend_48 rfl rfl rfl rfl rfl rfl (fun v h48 hq => ?_) (fun _ _ q => q.elim)
        obtain ⟨rfl, hS3, hF3⟩ := hq
        dsimp only [Option.toList, List.cons_append, List.nil_append]
        refine g_aload_n dX3_extend_51 rfl ?_
        refine g_iload_n dX3_extend_52 rfl ?_
        refine g_iload_n dX3_extend_53 rfl ?_
        refine g_iconst (v := (-1)) dX3_extend_54 (by decide) ?_
        refine f0_V (u' := 0) lX3_107 kX3_give (mX3_give (n := pre.length) (t := t) (s := -1) (c0 := aF A 3 t - s_con (s_begin B i t) t d) (s0 := s_shr (s_begin B i t) t) (w0 := s_share A t (s_worth A i t)) (by omega) (by omega) (hS3.1.2 t hlt).2 (hS3.1.2 t hlt).1 ((hS3.2.1.2 _ i hi).2.2 t hlt).2) dX3_extend_55 rfl rfl rfl rfl rfl rfl rfl rfl ?_
        refine s_inc (v := nI (t + 1)) dX3_extend_58 rfl nI_s rfl rfl rfl ?_
        dsimp only [List.set]
        refine g_goto (tgt := 20) dX3_extend_61 (by decide) ?_
        first
        | exact ih (t + 1) _ (by omega) (by rw [ef]; exact hS) hF (by omega)
        | exact ih (t + 1) _ (by omega) (by rw [ef]; exact ⟨rPs_gv hS3.1 (by rw [kc t d, if_pos ⟨rfl, kd⟩]; omega) (by rw [ks t, if_pos rfl, wq]; omega) (fun k hk9 => ⟨by rw [kc k d, if_neg (fun y => hk9 y.1)]; rfl, by rw [ks k, if_neg hk9]⟩), rPc_gv hS3.2.1, rPp_gv0 (fun k u hu => hS3.2.2.1 k u (by rw [List.getElem?_append_left (List.getElem?_eq_some_iff.mp hu).1]; exact hu)), rPa_gv hS3.2.2.2⟩) (x_frK_tr hF (x_frK_tr (x_frK_gv _ _ _ _ _) (x_frK_tr hF3 (x_frK_gv _ _ _ _ _)))) (by omega)
set_option maxRecDepth 100000 in
theorem mX3_extend2 {l : Launch} {G : ux_G} {h : ux_H} {A : Ab} {Ls : List Nat} {P d : Nat} (hH : pl_H A Ls P d) {R : List Nat} {B : Ab} {pre : List Nat} {a : pl_A} {PB c : Nat} (hR : pl_R A Ls pre B) (hB : Inv PB B) (hPB : PB + 6 * R.length ≤ 10000000) (hd : Ls.drop pre.length = R) (hpb : ∀ (k u : Nat), pre[k]? = some u → u < 8) (hk : okA c a) (hcc : c + 8 ^ R.length ≤ 500000) (hS : pl_S A Ls d B pre a h) (hr : R.length = 2) : ux_M l G yX3_extend iX3_extend 7 0 [.ref 179, .int (nI pre.length)] h (fun v h' => v = none ∧ pl_S A Ls d B pre (pl_go R B pre a) h' ∧ x_frK h h') (fun _ _ => False) := by
  refine ux_ent (L' := [some (.ref 179), some (.int (nI pre.length)), none]) kX3_extend rfl rfl rfl rfl ?_
  have dl := congrArg List.length hd
  rw [List.length_drop] at dl
  have l4 := hH.2.2.1
  have ll := hR.len
  refine g_iload_n dX3_extend_0 rfl ?_
  refine g_aload_n dX3_extend_1 rfl ?_
  refine g_geti fX3_40 dX3_extend_2 rfl rfl ?_
  refine g_top hS.2.1.1 ?_
  refine g_icmp_ge (tgt := 13) dX3_extend_5 (by decide) (fun c5 => ?_) (fun c5 => ?_)
  · exact absurd (xlt_i c5 (by omega) (by omega)) (by omega)
  · refine g_iload_n dX3_extend_8 rfl ?_
    refine g_iconst (v := 4) dX3_extend_9 (by decide) ?_
    refine g_icmp_lt (tgt := 18) dX3_extend_10 (by decide) (fun c10 => ?_) (fun c10 => ?_)
    · refine g_iconst (v := 0) dX3_extend_18 (by decide) ?_
      refine s_i (i := 2) dX3_extend_19 rfl rfl rfl rfl ?_
      dsimp only [List.set]
      obtain ⟨i, R2, rfl⟩ : ∃ i R2, R = i :: R2 := by cases R with | nil => cases hr | cons i R2 => exact ⟨i, R2, rfl⟩
      obtain ⟨e1, e2⟩ := pl_drop hd
      rw [pl_go_c]
      exact wX3_extend2 (h0 := h) hH hR hB hPB e1 e2 hpb hk hcc (by simpa using hr) (A.1 + 1) 0 h (Nat.zero_le _) hS (x_frK_rf h) (by omega)
    · exact absurd (show nI pre.length < 4 by rw [nI_iI, show (4 : Int32) = iI 4 by decide, iI_lt (by omega) (by omega) (by omega) (by omega)]; omega) c10
set_option maxRecDepth 100000 in
theorem wX3_extend3 {l : Launch} {G : ux_G} {h0 : ux_H} {A : Ab} {Ls : List Nat} {P d : Nat} (hH : pl_H A Ls P d) {R : List Nat} {B : Ab} {pre : List Nat} {a0 : pl_A} {PB c i : Nat} (hR : pl_R A Ls pre B) (hB : Inv PB B) (hPB : PB + 6 * (R.length + 1) ≤ 10000000) (hi : Ls[pre.length]? = some i) (hd : Ls.drop (pre.length + 1) = R) (hpb : ∀ (k u : Nat), pre[k]? = some u → u < 8) (hk : okA c a0) (hcc : c + 8 ^ (R.length + 1) ≤ 500000) (hr : R.length = 2) : ∀ (n : Nat) (t : Nat) (h : ux_H), t ≤ A.1 → pl_S A Ls d B pre (pl_fo (fun t a => if s_bar B i t = 0 then pl_go R (s_begin B i t) (pre ++ [t]) a else a) t a0) h → x_frK h0 h → A.1 - t < n → ux_W l G iX3_extend (ux_rm 8 0) (ux_Z G 0 (fun v h' => v = none ∧ pl_S A Ls d B pre (pl_fo (fun t a => if s_bar B i t = 0 then pl_go R (s_begin B i t) (pre ++ [t]) a else a) B.1 a0) h' ∧ x_frK h0 h') (fun _ _ => False)) 20 [some (.ref 179), some (.int (nI pre.length)), some (.int (nI t))] [] (h) 0 := by
  intro n
  induction n with
  | zero => intro t h htt hS hF hn; exact absurd hn (Nat.not_lt_zero _)
  | succ n ih =>
    intro t h htt hS hF hn
    obtain ⟨i1, i2, i3, i4, i5, i6⟩ := id hH.1
    have etc := hR.tc
    have l4 := hH.2.2.1
    have hil := (List.getElem?_eq_some_iff.mp hi).1
    obtain ⟨hm1, hm2, hm3⟩ := hH.2.2.2.2 i (List.mem_of_getElem? hi)
    have hno : ∀ k, k < pre.length → Ls[k]? ≠ some i := fun k hk9 y => by
      have := (List.getElem?_inj (List.getElem?_eq_some_iff.mp y).1 hH.2.2.2.1).mp (y.trans hi.symm)
      omega
    refine g_iload_n dX3_extend_20 rfl ?_
    refine g_aload_n dX3_extend_21 rfl ?_
    refine g_geti fX3_36 dX3_extend_22 rfl rfl ?_
    refine g_top hS.1.1 ?_
    refine g_icmp_ge (tgt := 64) dX3_extend_25 (by decide) (fun c25 => ?_) (fun c25 => ?_)
    · have e : t = B.1 := by have := xlt_i c25 (by omega) (by omega); omega
      subst e
      refine g_return dX3_extend_64 rfl (by decide) ?_
      exact ⟨rfl, hS, hF⟩
    · have hlt : t < A.1 := xnl_i c25 (by omega) (by omega)
      have ec : s_bar B i t = 0 ∨ ¬ s_bar B i t = 0 := Decidable.em _
      refine g_aload_n dX3_extend_28 rfl ?_
      refine g_iload_n dX3_extend_29 rfl ?_
      refine g_iload_n dX3_extend_30 rfl ?_
      refine f1_V (u' := 0) lX3_103 kX3_canTake (mX3_canTake hH.1 hi hH.2.2.1 hH.2.2.2.2 hR hS.1 hS.2.1 hS.2.2.1 hlt hpb) dX3_extend_31 rfl rfl rfl rfl rfl rfl rfl rfl ?_
      refine g_if_eq (tgt := 58) dX3_extend_34 (by decide) (fun c34 => ?_) (fun c34 => ?_)
      · have qx34q : ¬ s_bar B i t = 0 := xb_0.mp c34
        have ef : pl_fo (fun t a => if s_bar B i t = 0 then pl_go R (s_begin B i t) (pre ++ [t]) a else a) (t + 1) a0 = pl_fo (fun t a => if s_bar B i t = 0 then pl_go R (s_begin B i t) (pre ++ [t]) a else a) t a0 := by show (if s_bar B i t = 0 then _ else _) = _; rw [if_neg qx34q]
        refine s_inc (v := nI (t + 1)) dX3_extend_58 rfl nI_s rfl rfl rfl ?_
        dsimp only [List.set]
        refine g_goto (tgt := 20) dX3_extend_61 (by decide) ?_
        first
        | exact ih (t + 1) _ (by omega) (by rw [ef]; exact hS) hF (by omega)
        | exact ih (t + 1) _ (by omega) (by rw [ef]; exact ⟨rPs_gv hS3.1 (by rw [kc t d, if_pos ⟨rfl, kd⟩]; omega) (by rw [ks t, if_pos rfl, wq]; omega) (fun k hk9 => ⟨by rw [kc k d, if_neg (fun y => hk9 y.1)]; rfl, by rw [ks k, if_neg hk9]⟩), rPc_gv hS3.2.1, rPp_gv0 (fun k u hu => hS3.2.2.1 k u (by rw [List.getElem?_append_left (List.getElem?_eq_some_iff.mp hu).1]; exact hu)), rPa_gv hS3.2.2.2⟩) (x_frK_tr hF (x_frK_tr (x_frK_gv _ _ _ _ _) (x_frK_tr hF3 (x_frK_gv _ _ _ _ _)))) (by omega)
      · have q34 : s_bar B i t = 0 := xb_n0 c34
        have ef : pl_fo (fun t a => if s_bar B i t = 0 then pl_go R (s_begin B i t) (pre ++ [t]) a else a) (t + 1) a0 = pl_go R (s_begin B i t) (pre ++ [t]) (pl_fo (fun t a => if s_bar B i t = 0 then pl_go R (s_begin B i t) (pre ++ [t]) a else a) t a0) := by show (if s_bar B i t = 0 then _ else _) = _; rw [if_pos q34]
        have kc := begin_con (A := B) (i := i) (t := t) (by rw [hR.lc]; exact hm1) (by rw [hR.oth i hno]; exact hm2)
        have kd : aF B 8 i / 6 = (d : Int) := by rw [hR.same 8 i (by decide) (by decide)]; exact hm3
        have ks := begin_shr hB (i := i) (t := t) (by rw [hR.tc]; exact hlt)
        have hR2 := pl_RS (t := t) hR hH.2.2.2.1 hi
        have hB2 := s_begin_I (i := i) (t := t) hB (by rw [hR.tc]; exact hlt) (by omega)
        have wq : s_share B t (s_worth B i t) = s_share A t (s_worth A i t) := by rw [s_share_R hR, s_worth_R hR]
        refine g_aload_n dX3_extend_37 rfl ?_
        refine g_iload_n dX3_extend_38 rfl ?_
        refine g_iload_n dX3_extend_39 rfl ?_
        refine g_iconst (v := 1) dX3_extend_40 (by decide) ?_
        refine f0_V (u' := 0) lX3_107 kX3_give (mX3_give (n := pre.length) (t := t) (s := 1) (c0 := aF A 3 t - s_con B t d) (s0 := s_shr B t) (w0 := s_share A t (s_worth A i t)) (by omega) (by omega) (hS.1.2 t hlt).2 (hS.1.2 t hlt).1 ((hS.2.1.2 _ i hi).2.2 t hlt).2) dX3_extend_41 rfl rfl rfl rfl rfl rfl rfl rfl ?_
        refine g_aload_n dX3_extend_44 rfl ?_
        refine g_iload_n dX3_extend_45 rfl ?_
        refine g_iconst (v := 1) dX3_extend_46 (by decide) ?_
        refine g_iadd dX3_extend_47 ?_
        refine g_top (y := nI (pre ++ [t]).length) (by rw [List.length_append]; exact nI_1 _) ?_
        have hS2 : pl_S A Ls d (s_begin B i t) (pre ++ [t]) (pl_fo (fun t a => if s_bar B i t = 0 then pl_go R (s_begin B i t) (pre ++ [t]) a else a) t a0) (x_gv h pre.length t (aF A 3 t - s_con B t d - 1) (s_shr B t + 1 * s_share A t (s_worth A i t))) := ⟨rPs_gv hS.1 (by rw [kc t d, if_pos ⟨rfl, kd⟩]; omega) (by rw [ks t, if_pos rfl, wq]; omega) (fun k hk9 => ⟨by rw [kc k d, if_neg (fun y => hk9 y.1)]; rfl, by rw [ks k, if_neg hk9]⟩), rPc_gv hS.2.1, rPp_gv hS.2.2.1, rPa_gv hS.2.2.2⟩
        have hpb2 : ∀ (k u : Nat), (pre ++ [t])[k]? = some u → u < 8 := fun k u hu => by
          rcases List.mem_append.mp (List.mem_of_getElem? hu) with q | q
          · obtain ⟨k9, hk9⟩ := List.getElem?_of_mem q
            exact hpb k9 u hk9
          · rw [List.mem_singleton.mp q]; omega
        have hk2 : okA (c + t * 8 ^ R.length) (pl_fo (fun t a => if s_bar B i t = 0 then pl_go R (s_begin B i t) (pre ++ [t]) a else a) t a0) := okA_fo (m := B.1) (fun u c9 a9 hu ha9 => by
          by_cases y : s_bar B i u = 0
          · show okA _ (if s_bar B i u = 0 then _ else _)
            rw [if_pos y]
            exact okA_go R (s_begin_I hB hu (by omega)) (by omega) ha9
          · show okA _ (if s_bar B i u = 0 then _ else _)
            rw [if_neg y]
            exact okA_mono ha9 (Nat.le_add_right _ _)) hk t (by omega)
        have hcc2 : c + t * 8 ^ R.length + 8 ^ R.length ≤ 500000 := by
          have e9 : (t + 1) * 8 ^ R.length ≤ 8 * 8 ^ R.length := Nat.mul_le_mul_right _ (by omega)
          rw [Nat.succ_mul] at e9
          rw [Nat.pow_succ, Nat.mul_comm (8 ^ R.length) 8] at hcc
          omega
        refine q_S (u' := 0) lX3_86 kX3_extend (mX3_extend2 hH (R := R) (B := s_begin B i t) (pre := pre ++ [t]) (a := pl_fo (fun t a => if s_bar B i t = 0 then pl_go R (s_begin B i t) (pre ++ [t]) a else a) t a0) hR2 hB2 (by omega) (by rw [List.length_append]; exact hd) hpb2 hk2 hcc2 hS2 hr) dX3_extend_48 rfl rfl rfl rfl rfl rfl (fun v h48 hq => ?_) (fun _ _ q => q.elim)
        obtain ⟨rfl, hS3, hF3⟩ := hq
        dsimp only [Option.toList, List.cons_append, List.nil_append]
        refine g_aload_n dX3_extend_51 rfl ?_
        refine g_iload_n dX3_extend_52 rfl ?_
        refine g_iload_n dX3_extend_53 rfl ?_
        refine g_iconst (v := (-1)) dX3_extend_54 (by decide) ?_
        refine f0_V (u' := 0) lX3_107 kX3_give (mX3_give (n := pre.length) (t := t) (s := -1) (c0 := aF A 3 t - s_con (s_begin B i t) t d) (s0 := s_shr (s_begin B i t) t) (w0 := s_share A t (s_worth A i t)) (by omega) (by omega) (hS3.1.2 t hlt).2 (hS3.1.2 t hlt).1 ((hS3.2.1.2 _ i hi).2.2 t hlt).2) dX3_extend_55 rfl rfl rfl rfl rfl rfl rfl rfl ?_
        refine s_inc (v := nI (t + 1)) dX3_extend_58 rfl nI_s rfl rfl rfl ?_
        dsimp only [List.set]
        refine g_goto (tgt := 20) dX3_extend_61 (by decide) ?_
        first
        | exact ih (t + 1) _ (by omega) (by rw [ef]; exact hS) hF (by omega)
        | exact ih (t + 1) _ (by omega) (by rw [ef]; exact ⟨rPs_gv hS3.1 (by rw [kc t d, if_pos ⟨rfl, kd⟩]; omega) (by rw [ks t, if_pos rfl, wq]; omega) (fun k hk9 => ⟨by rw [kc k d, if_neg (fun y => hk9 y.1)]; rfl, by rw [ks k, if_neg hk9]⟩), rPc_gv hS3.2.1, rPp_gv0 (fun k u hu => hS3.2.2.1 k u (by rw [List.getElem?_append_left (List.getElem?_eq_some_iff.mp hu).1]; exact hu)), rPa_gv hS3.2.2.2⟩) (x_frK_tr hF (x_frK_tr (x_frK_gv _ _ _ _ _) (x_frK_tr hF3 (x_frK_gv _ _ _ _ _)))) (by omega)
set_option maxRecDepth 100000 in
theorem mX3_extend3 {l : Launch} {G : ux_G} {h : ux_H} {A : Ab} {Ls : List Nat} {P d : Nat} (hH : pl_H A Ls P d) {R : List Nat} {B : Ab} {pre : List Nat} {a : pl_A} {PB c : Nat} (hR : pl_R A Ls pre B) (hB : Inv PB B) (hPB : PB + 6 * R.length ≤ 10000000) (hd : Ls.drop pre.length = R) (hpb : ∀ (k u : Nat), pre[k]? = some u → u < 8) (hk : okA c a) (hcc : c + 8 ^ R.length ≤ 500000) (hS : pl_S A Ls d B pre a h) (hr : R.length = 3) : ux_M l G yX3_extend iX3_extend 8 0 [.ref 179, .int (nI pre.length)] h (fun v h' => v = none ∧ pl_S A Ls d B pre (pl_go R B pre a) h' ∧ x_frK h h') (fun _ _ => False) := by
  refine ux_ent (L' := [some (.ref 179), some (.int (nI pre.length)), none]) kX3_extend rfl rfl rfl rfl ?_
  have dl := congrArg List.length hd
  rw [List.length_drop] at dl
  have l4 := hH.2.2.1
  have ll := hR.len
  refine g_iload_n dX3_extend_0 rfl ?_
  refine g_aload_n dX3_extend_1 rfl ?_
  refine g_geti fX3_40 dX3_extend_2 rfl rfl ?_
  refine g_top hS.2.1.1 ?_
  refine g_icmp_ge (tgt := 13) dX3_extend_5 (by decide) (fun c5 => ?_) (fun c5 => ?_)
  · exact absurd (xlt_i c5 (by omega) (by omega)) (by omega)
  · refine g_iload_n dX3_extend_8 rfl ?_
    refine g_iconst (v := 4) dX3_extend_9 (by decide) ?_
    refine g_icmp_lt (tgt := 18) dX3_extend_10 (by decide) (fun c10 => ?_) (fun c10 => ?_)
    · refine g_iconst (v := 0) dX3_extend_18 (by decide) ?_
      refine s_i (i := 2) dX3_extend_19 rfl rfl rfl rfl ?_
      dsimp only [List.set]
      obtain ⟨i, R2, rfl⟩ : ∃ i R2, R = i :: R2 := by cases R with | nil => cases hr | cons i R2 => exact ⟨i, R2, rfl⟩
      obtain ⟨e1, e2⟩ := pl_drop hd
      rw [pl_go_c]
      exact wX3_extend3 (h0 := h) hH hR hB hPB e1 e2 hpb hk hcc (by simpa using hr) (A.1 + 1) 0 h (Nat.zero_le _) hS (x_frK_rf h) (by omega)
    · exact absurd (show nI pre.length < 4 by rw [nI_iI, show (4 : Int32) = iI 4 by decide, iI_lt (by omega) (by omega) (by omega) (by omega)]; omega) c10
set_option maxRecDepth 100000 in
theorem wX3_extend4 {l : Launch} {G : ux_G} {h0 : ux_H} {A : Ab} {Ls : List Nat} {P d : Nat} (hH : pl_H A Ls P d) {R : List Nat} {B : Ab} {pre : List Nat} {a0 : pl_A} {PB c i : Nat} (hR : pl_R A Ls pre B) (hB : Inv PB B) (hPB : PB + 6 * (R.length + 1) ≤ 10000000) (hi : Ls[pre.length]? = some i) (hd : Ls.drop (pre.length + 1) = R) (hpb : ∀ (k u : Nat), pre[k]? = some u → u < 8) (hk : okA c a0) (hcc : c + 8 ^ (R.length + 1) ≤ 500000) (hr : R.length = 3) : ∀ (n : Nat) (t : Nat) (h : ux_H), t ≤ A.1 → pl_S A Ls d B pre (pl_fo (fun t a => if s_bar B i t = 0 then pl_go R (s_begin B i t) (pre ++ [t]) a else a) t a0) h → x_frK h0 h → A.1 - t < n → ux_W l G iX3_extend (ux_rm 9 0) (ux_Z G 0 (fun v h' => v = none ∧ pl_S A Ls d B pre (pl_fo (fun t a => if s_bar B i t = 0 then pl_go R (s_begin B i t) (pre ++ [t]) a else a) B.1 a0) h' ∧ x_frK h0 h') (fun _ _ => False)) 20 [some (.ref 179), some (.int (nI pre.length)), some (.int (nI t))] [] (h) 0 := by
  intro n
  induction n with
  | zero => intro t h htt hS hF hn; exact absurd hn (Nat.not_lt_zero _)
  | succ n ih =>
    intro t h htt hS hF hn
    obtain ⟨i1, i2, i3, i4, i5, i6⟩ := id hH.1
    have etc := hR.tc
    have l4 := hH.2.2.1
    have hil := (List.getElem?_eq_some_iff.mp hi).1
    obtain ⟨hm1, hm2, hm3⟩ := hH.2.2.2.2 i (List.mem_of_getElem? hi)
    have hno : ∀ k, k < pre.length → Ls[k]? ≠ some i := fun k hk9 y => by
      have := (List.getElem?_inj (List.getElem?_eq_some_iff.mp y).1 hH.2.2.2.1).mp (y.trans hi.symm)
      omega
    refine g_iload_n dX3_extend_20 rfl ?_
    refine g_aload_n dX3_extend_21 rfl ?_
    refine g_geti fX3_36 dX3_extend_22 rfl rfl ?_
    refine g_top hS.1.1 ?_
    refine g_icmp_ge (tgt := 64) dX3_extend_25 (by decide) (fun c25 => ?_) (fun c25 => ?_)
    · have e : t = B.1 := by have := xlt_i c25 (by omega) (by omega); omega
      subst e
      refine g_return dX3_extend_64 rfl (by decide) ?_
      exact ⟨rfl, hS, hF⟩
    · have hlt : t < A.1 := xnl_i c25 (by omega) (by omega)
      have ec : s_bar B i t = 0 ∨ ¬ s_bar B i t = 0 := Decidable.em _
      refine g_aload_n dX3_extend_28 rfl ?_
      refine g_iload_n dX3_extend_29 rfl ?_
      refine g_iload_n dX3_extend_30 rfl ?_
      refine f1_V (u' := 0) lX3_103 kX3_canTake (mX3_canTake hH.1 hi hH.2.2.1 hH.2.2.2.2 hR hS.1 hS.2.1 hS.2.2.1 hlt hpb) dX3_extend_31 rfl rfl rfl rfl rfl rfl rfl rfl ?_
      refine g_if_eq (tgt := 58) dX3_extend_34 (by decide) (fun c34 => ?_) (fun c34 => ?_)
      · have qx34q : ¬ s_bar B i t = 0 := xb_0.mp c34
        have ef : pl_fo (fun t a => if s_bar B i t = 0 then pl_go R (s_begin B i t) (pre ++ [t]) a else a) (t + 1) a0 = pl_fo (fun t a => if s_bar B i t = 0 then pl_go R (s_begin B i t) (pre ++ [t]) a else a) t a0 := by show (if s_bar B i t = 0 then _ else _) = _; rw [if_neg qx34q]
        refine s_inc (v := nI (t + 1)) dX3_extend_58 rfl nI_s rfl rfl rfl ?_
        dsimp only [List.set]
        refine g_goto (tgt := 20) dX3_extend_61 (by decide) ?_
        first
        | exact ih (t + 1) _ (by omega) (by rw [ef]; exact hS) hF (by omega)
        | exact ih (t + 1) _ (by omega) (by rw [ef]; exact ⟨rPs_gv hS3.1 (by rw [kc t d, if_pos ⟨rfl, kd⟩]; omega) (by rw [ks t, if_pos rfl, wq]; omega) (fun k hk9 => ⟨by rw [kc k d, if_neg (fun y => hk9 y.1)]; rfl, by rw [ks k, if_neg hk9]⟩), rPc_gv hS3.2.1, rPp_gv0 (fun k u hu => hS3.2.2.1 k u (by rw [List.getElem?_append_left (List.getElem?_eq_some_iff.mp hu).1]; exact hu)), rPa_gv hS3.2.2.2⟩) (x_frK_tr hF (x_frK_tr (x_frK_gv _ _ _ _ _) (x_frK_tr hF3 (x_frK_gv _ _ _ _ _)))) (by omega)
      · have q34 : s_bar B i t = 0 := xb_n0 c34
        have ef : pl_fo (fun t a => if s_bar B i t = 0 then pl_go R (s_begin B i t) (pre ++ [t]) a else a) (t + 1) a0 = pl_go R (s_begin B i t) (pre ++ [t]) (pl_fo (fun t a => if s_bar B i t = 0 then pl_go R (s_begin B i t) (pre ++ [t]) a else a) t a0) := by show (if s_bar B i t = 0 then _ else _) = _; rw [if_pos q34]
        have kc := begin_con (A := B) (i := i) (t := t) (by rw [hR.lc]; exact hm1) (by rw [hR.oth i hno]; exact hm2)
        have kd : aF B 8 i / 6 = (d : Int) := by rw [hR.same 8 i (by decide) (by decide)]; exact hm3
        have ks := begin_shr hB (i := i) (t := t) (by rw [hR.tc]; exact hlt)
        have hR2 := pl_RS (t := t) hR hH.2.2.2.1 hi
        have hB2 := s_begin_I (i := i) (t := t) hB (by rw [hR.tc]; exact hlt) (by omega)
        have wq : s_share B t (s_worth B i t) = s_share A t (s_worth A i t) := by rw [s_share_R hR, s_worth_R hR]
        refine g_aload_n dX3_extend_37 rfl ?_
        refine g_iload_n dX3_extend_38 rfl ?_
        refine g_iload_n dX3_extend_39 rfl ?_
        refine g_iconst (v := 1) dX3_extend_40 (by decide) ?_
        refine f0_V (u' := 0) lX3_107 kX3_give (mX3_give (n := pre.length) (t := t) (s := 1) (c0 := aF A 3 t - s_con B t d) (s0 := s_shr B t) (w0 := s_share A t (s_worth A i t)) (by omega) (by omega) (hS.1.2 t hlt).2 (hS.1.2 t hlt).1 ((hS.2.1.2 _ i hi).2.2 t hlt).2) dX3_extend_41 rfl rfl rfl rfl rfl rfl rfl rfl ?_
        refine g_aload_n dX3_extend_44 rfl ?_
        refine g_iload_n dX3_extend_45 rfl ?_
        refine g_iconst (v := 1) dX3_extend_46 (by decide) ?_
        refine g_iadd dX3_extend_47 ?_
        refine g_top (y := nI (pre ++ [t]).length) (by rw [List.length_append]; exact nI_1 _) ?_
        have hS2 : pl_S A Ls d (s_begin B i t) (pre ++ [t]) (pl_fo (fun t a => if s_bar B i t = 0 then pl_go R (s_begin B i t) (pre ++ [t]) a else a) t a0) (x_gv h pre.length t (aF A 3 t - s_con B t d - 1) (s_shr B t + 1 * s_share A t (s_worth A i t))) := ⟨rPs_gv hS.1 (by rw [kc t d, if_pos ⟨rfl, kd⟩]; omega) (by rw [ks t, if_pos rfl, wq]; omega) (fun k hk9 => ⟨by rw [kc k d, if_neg (fun y => hk9 y.1)]; rfl, by rw [ks k, if_neg hk9]⟩), rPc_gv hS.2.1, rPp_gv hS.2.2.1, rPa_gv hS.2.2.2⟩
        have hpb2 : ∀ (k u : Nat), (pre ++ [t])[k]? = some u → u < 8 := fun k u hu => by
          rcases List.mem_append.mp (List.mem_of_getElem? hu) with q | q
          · obtain ⟨k9, hk9⟩ := List.getElem?_of_mem q
            exact hpb k9 u hk9
          · rw [List.mem_singleton.mp q]; omega
        have hk2 : okA (c + t * 8 ^ R.length) (pl_fo (fun t a => if s_bar B i t = 0 then pl_go R (s_begin B i t) (pre ++ [t]) a else a) t a0) := okA_fo (m := B.1) (fun u c9 a9 hu ha9 => by
          by_cases y : s_bar B i u = 0
          · show okA _ (if s_bar B i u = 0 then _ else _)
            rw [if_pos y]
            exact okA_go R (s_begin_I hB hu (by omega)) (by omega) ha9
          · show okA _ (if s_bar B i u = 0 then _ else _)
            rw [if_neg y]
            exact okA_mono ha9 (Nat.le_add_right _ _)) hk t (by omega)
        have hcc2 : c + t * 8 ^ R.length + 8 ^ R.length ≤ 500000 := by
          have e9 : (t + 1) * 8 ^ R.length ≤ 8 * 8 ^ R.length := Nat.mul_le_mul_right _ (by omega)
          rw [Nat.succ_mul] at e9
          rw [Nat.pow_succ, Nat.mul_comm (8 ^ R.length) 8] at hcc
          omega
        refine q_S (u' := 0) lX3_86 kX3_extend (mX3_extend3 hH (R := R) (B := s_begin B i t) (pre := pre ++ [t]) (a := pl_fo (fun t a => if s_bar B i t = 0 then pl_go R (s_begin B i t) (pre ++ [t]) a else a) t a0) hR2 hB2 (by omega) (by rw [List.length_append]; exact hd) hpb2 hk2 hcc2 hS2 hr) dX3_extend_48 rfl rfl rfl rfl rfl rfl (fun v h48 hq => ?_) (fun _ _ q => q.elim)
        obtain ⟨rfl, hS3, hF3⟩ := hq
        dsimp only [Option.toList, List.cons_append, List.nil_append]
        refine g_aload_n dX3_extend_51 rfl ?_
        refine g_iload_n dX3_extend_52 rfl ?_
        refine g_iload_n dX3_extend_53 rfl ?_
        refine g_iconst (v := (-1)) dX3_extend_54 (by decide) ?_
        refine f0_V (u' := 0) lX3_107 kX3_give (mX3_give (n := pre.length) (t := t) (s := -1) (c0 := aF A 3 t - s_con (s_begin B i t) t d) (s0 := s_shr (s_begin B i t) t) (w0 := s_share A t (s_worth A i t)) (by omega) (by omega) (hS3.1.2 t hlt).2 (hS3.1.2 t hlt).1 ((hS3.2.1.2 _ i hi).2.2 t hlt).2) dX3_extend_55 rfl rfl rfl rfl rfl rfl rfl rfl ?_
        refine s_inc (v := nI (t + 1)) dX3_extend_58 rfl nI_s rfl rfl rfl ?_
        dsimp only [List.set]
        refine g_goto (tgt := 20) dX3_extend_61 (by decide) ?_
        first
        | exact ih (t + 1) _ (by omega) (by rw [ef]; exact hS) hF (by omega)
        | exact ih (t + 1) _ (by omega) (by rw [ef]; exact ⟨rPs_gv hS3.1 (by rw [kc t d, if_pos ⟨rfl, kd⟩]; omega) (by rw [ks t, if_pos rfl, wq]; omega) (fun k hk9 => ⟨by rw [kc k d, if_neg (fun y => hk9 y.1)]; rfl, by rw [ks k, if_neg hk9]⟩), rPc_gv hS3.2.1, rPp_gv0 (fun k u hu => hS3.2.2.1 k u (by rw [List.getElem?_append_left (List.getElem?_eq_some_iff.mp hu).1]; exact hu)), rPa_gv hS3.2.2.2⟩) (x_frK_tr hF (x_frK_tr (x_frK_gv _ _ _ _ _) (x_frK_tr hF3 (x_frK_gv _ _ _ _ _)))) (by omega)
set_option maxRecDepth 100000 in
theorem mX3_extend4 {l : Launch} {G : ux_G} {h : ux_H} {A : Ab} {Ls : List Nat} {P d : Nat} (hH : pl_H A Ls P d) {R : List Nat} {B : Ab} {pre : List Nat} {a : pl_A} {PB c : Nat} (hR : pl_R A Ls pre B) (hB : Inv PB B) (hPB : PB + 6 * R.length ≤ 10000000) (hd : Ls.drop pre.length = R) (hpb : ∀ (k u : Nat), pre[k]? = some u → u < 8) (hk : okA c a) (hcc : c + 8 ^ R.length ≤ 500000) (hS : pl_S A Ls d B pre a h) (hr : R.length = 4) : ux_M l G yX3_extend iX3_extend 9 0 [.ref 179, .int (nI pre.length)] h (fun v h' => v = none ∧ pl_S A Ls d B pre (pl_go R B pre a) h' ∧ x_frK h h') (fun _ _ => False) := by
  refine ux_ent (L' := [some (.ref 179), some (.int (nI pre.length)), none]) kX3_extend rfl rfl rfl rfl ?_
  have dl := congrArg List.length hd
  rw [List.length_drop] at dl
  have l4 := hH.2.2.1
  have ll := hR.len
  refine g_iload_n dX3_extend_0 rfl ?_
  refine g_aload_n dX3_extend_1 rfl ?_
  refine g_geti fX3_40 dX3_extend_2 rfl rfl ?_
  refine g_top hS.2.1.1 ?_
  refine g_icmp_ge (tgt := 13) dX3_extend_5 (by decide) (fun c5 => ?_) (fun c5 => ?_)
  · exact absurd (xlt_i c5 (by omega) (by omega)) (by omega)
  · refine g_iload_n dX3_extend_8 rfl ?_
    refine g_iconst (v := 4) dX3_extend_9 (by decide) ?_
    refine g_icmp_lt (tgt := 18) dX3_extend_10 (by decide) (fun c10 => ?_) (fun c10 => ?_)
    · refine g_iconst (v := 0) dX3_extend_18 (by decide) ?_
      refine s_i (i := 2) dX3_extend_19 rfl rfl rfl rfl ?_
      dsimp only [List.set]
      obtain ⟨i, R2, rfl⟩ : ∃ i R2, R = i :: R2 := by cases R with | nil => cases hr | cons i R2 => exact ⟨i, R2, rfl⟩
      obtain ⟨e1, e2⟩ := pl_drop hd
      rw [pl_go_c]
      exact wX3_extend4 (h0 := h) hH hR hB hPB e1 e2 hpb hk hcc (by simpa using hr) (A.1 + 1) 0 h (Nat.zero_le _) hS (x_frK_rf h) (by omega)
    · exact absurd (show nI pre.length < 4 by rw [nI_iI, show (4 : Int32) = iI 4 by decide, iI_lt (by omega) (by omega) (by omega) (by omega)]; omega) c10
