/-! THE CLASS: the planner: its rows; the spread. -/
def rPs (A B : Ab) (d : Int) (h : ux_H) : Prop := xgi h 179 8 = nI A.1 ∧ ∀ t, t < A.1 → xgi h 185 t = iI (s_shr B t) ∧ xgi h 186 t = iI (aF A 3 t - s_con B t d)
def rPc (A : Ab) (Ls : List Nat) (h : ux_H) : Prop := xgi h 179 9 = nI Ls.length ∧ ∀ (k i : Nat), Ls[k]? = some i → xgi h 180 k = nI i ∧ xgi h 181 k = iI (aF A 8 i) ∧ ∀ t, t < A.1 → ((xgi h 182 k >>> (nI t &&& 31) &&& 1 = 0) ↔ ¬ s_bar A i t = 0) ∧ xgi h 187 (8 * k + t) = iI (s_share A t (s_worth A i t))
def rPp (pre : List Nat) (h : ux_H) : Prop := ∀ (k t : Nat), pre[k]? = some t → xgi h 183 k = nI t
def rPa (n : Nat) (a : pl_A) (h : ux_H) : Prop := xgi h 179 10 = nI a.1 ∧ xgi h 179 11 = iI a.2.1 ∧ (a.1 ≠ 0 → a.2.2.length = n ∧ ∀ (k t : Nat), a.2.2[k]? = some t → xgi h 184 k = nI t)
theorem s_shr_r {P : Nat} {B : Ab} (hI : Inv P B) {t : Nat} (ht : t < B.1) : -120000000 ≤ s_shr B t ∧ s_shr B t ≤ 120000000 := by
  have q := hI.2.2.2.1 t ht
  have p := hI.2.2.1
  have := s_share_r hI ht (p := aF B 4 t) (B := 10000000) (by omega) (by omega)
  unfold s_shr
  omega
theorem pl_mx_r {P : Nat} {B : Ab} (hI : Inv P B) : ∀ n, 1 ≤ n → n ≤ B.1 → -120000000 ≤ pl_mx B n ∧ pl_mx B n ≤ 120000000 := by
  intro n
  induction n with
  | zero => intro h; omega
  | succ n ih =>
    intro _ hn
    have a := s_shr_r hI (t := n) (by omega)
    have b := s_shr_r hI (t := 0) (by omega)
    unfold pl_mx
    split
    · exact b
    · split
      · exact a
      · exact ih (by omega) (by omega)
theorem pl_mn_r {P : Nat} {B : Ab} (hI : Inv P B) : ∀ n, 1 ≤ n → n ≤ B.1 → -120000000 ≤ pl_mn B n ∧ pl_mn B n ≤ 120000000 := by
  intro n
  induction n with
  | zero => intro h; omega
  | succ n ih =>
    intro _ hn
    have a := s_shr_r hI (t := n) (by omega)
    have b := s_shr_r hI (t := 0) (by omega)
    unfold pl_mn
    split
    · exact b
    · split
      · exact a
      · exact ih (by omega) (by omega)
set_option maxRecDepth 100000 in
theorem wX3_spreadNow {l : Launch} {G : ux_G} {h : ux_H} {A B : Ab} {P : Nat} {d : Int} (hB : Inv P B) (ht : B.1 = A.1) (hS : rPs A B d h) (h0 : 0 < A.1) : ∀ (n : Nat) (j : Nat), 1 ≤ j → j ≤ A.1 → A.1 - j < n → ux_W l G iX3_spreadNow (ux_rm 3 0) (ux_Z G 0 (fun v h' => v = some (.int (iI (pl_sp B))) ∧ h' = h) (fun _ _ => False)) 13 [some (.ref 179), some (.int (iI (pl_mn B j))), some (.int (iI (pl_mx B j))), some (.int (nI j))] [] (h) 0 := by
  intro n
  induction n with
  | zero => intro j hj1 hj hn; exact absurd hn (Nat.not_lt_zero _)
  | succ n ih =>
    intro j hj1 hj hn
    obtain ⟨b1, -⟩ := id hB
    have m1 := pl_mx_r hB j hj1 (by omega)
    have m2 := pl_mn_r hB j hj1 (by omega)
    refine g_iload_n dX3_spreadNow_13 rfl ?_
    refine g_aload_n dX3_spreadNow_14 rfl ?_
    refine g_geti fX3_36 dX3_spreadNow_15 rfl rfl ?_
    refine g_top hS.1 ?_
    refine g_icmp_ge (tgt := 53) dX3_spreadNow_18 (by decide) (fun c18 => ?_) (fun c18 => ?_)
    · have e : j = A.1 := by have := xlt_i c18 (by omega) (by omega); omega
      have ep : pl_sp B = pl_mx B j - pl_mn B j := by unfold pl_sp; rw [if_neg (by omega), ht, e]
      refine g_iload_n dX3_spreadNow_53 rfl ?_
      refine g_iload_n dX3_spreadNow_54 rfl ?_
      refine g_isub dX3_spreadNow_55 ?_
      refine g_ireturn dX3_spreadNow_56 rfl rfl (by decide) ?_
      exact ⟨by rw [ep, iI_sub], rfl⟩
    · have hlt : j < A.1 := xnl_i c18 (by omega) (by omega)
      have a := s_shr_r hB (t := j) (by omega)
      have en : ∀ x y : Int, pl_mn B (j + 1) = if s_shr B j < pl_mn B j then s_shr B j else pl_mn B j := fun _ _ => by show (if j = 0 then _ else _) = _; rw [if_neg (by omega)]
      have ex : pl_mx B (j + 1) = if pl_mx B j < s_shr B j then s_shr B j else pl_mx B j := by show (if j = 0 then _ else _) = _; rw [if_neg (by omega)]
      refine g_iload_n dX3_spreadNow_21 rfl ?_
      refine g_aload_n dX3_spreadNow_22 rfl ?_
      refine g_getr (q := 185) fX3_27 dX3_spreadNow_23 rfl rfl rfl ?_
      refine g_iload_n dX3_spreadNow_26 rfl ?_
      refine f1_SN (u' := 0) lX3_72 kX5_at (mX5_at (k := 185) rfl (show _ < 8 by omega)) dX3_spreadNow_27 rfl rfl rfl rfl rfl rfl ?_
      refine g_top (hS.2 j hlt).1 ?_
      refine g_min xmin_X3_56 xmin_s xmath_i xmin_c dX3_spreadNow_30 rfl rfl ?_
      refine g_top (y := iI (pl_mn B (j + 1))) (by rw [en 0 0]; by_cases q : s_shr B j < pl_mn B j; rw [if_pos q, if_pos ((iI_lt (by omega) (by omega) (by omega) (by omega)).mpr q)]; rw [if_neg q, if_neg (fun y => q ((iI_lt (by omega) (by omega) (by omega) (by omega)).mp y))]) ?_
      refine s_i (i := 1) dX3_spreadNow_33 rfl rfl rfl rfl ?_
      dsimp only [List.set]
      refine g_iload_n dX3_spreadNow_34 rfl ?_
      refine g_aload_n dX3_spreadNow_35 rfl ?_
      refine g_getr (q := 185) fX3_27 dX3_spreadNow_36 rfl rfl rfl ?_
      refine g_iload_n dX3_spreadNow_39 rfl ?_
      refine f1_SN (u' := 0) lX3_72 kX5_at (mX5_at (k := 185) rfl (show _ < 8 by omega)) dX3_spreadNow_40 rfl rfl rfl rfl rfl rfl ?_
      refine g_top (hS.2 j hlt).1 ?_
      refine g_max xmax_X3_119 xmax_s xmath_i xmax_c dX3_spreadNow_43 rfl rfl ?_
      refine g_top (y := iI (pl_mx B (j + 1))) (by rw [ex]; by_cases q : pl_mx B j < s_shr B j; rw [if_pos q, if_pos ((iI_lt (by omega) (by omega) (by omega) (by omega)).mpr q)]; rw [if_neg q, if_neg (fun y => q ((iI_lt (by omega) (by omega) (by omega) (by omega)).mp y))]) ?_
      refine s_i (i := 2) dX3_spreadNow_46 rfl rfl rfl rfl ?_
      dsimp only [List.set]
      refine s_inc (v := nI (j + 1)) dX3_spreadNow_47 rfl nI_s rfl rfl rfl ?_
      dsimp only [List.set]
      refine g_goto (tgt := 13) dX3_spreadNow_50 (by decide) ?_
      exact ih (j + 1) (by omega) (by omega) (by omega)
set_option maxRecDepth 100000 in
theorem mX3_spreadNow1 {l : Launch} {G : ux_G} {h : ux_H} {A B : Ab} {P : Nat} {d : Int} (hB : Inv P B) (ht : B.1 = A.1) (hS : rPs A B d h) (h0 : 0 < A.1) : ux_F l G yX3_spreadNow iX3_spreadNow 3 0 [.ref 179] h (some (.int (iI (pl_sp B)))) (h) := by
  unfold ux_F
  refine ux_ent (L' := [some (.ref 179), none, none, none]) kX3_spreadNow rfl rfl rfl rfl ?_
  refine g_aload_n dX3_spreadNow_0 rfl ?_
  refine g_getr (q := 185) fX3_27 dX3_spreadNow_1 rfl rfl rfl ?_
  refine g_iconst (v := 0) dX3_spreadNow_4 (by decide) ?_
  refine f1_SN (u' := 0) lX3_72 kX5_at (mX5_at (k := 185) (j := 0) rfl (by decide)) dX3_spreadNow_5 rfl rfl rfl rfl rfl rfl ?_
  refine g_top (hS.2 0 h0).1 ?_
  refine s_i (i := 1) dX3_spreadNow_8 rfl rfl rfl rfl ?_
  dsimp only [List.set]
  refine g_iload_n dX3_spreadNow_9 rfl ?_
  refine s_i (i := 2) dX3_spreadNow_10 rfl rfl rfl rfl ?_
  dsimp only [List.set]
  refine g_iconst (v := 1) dX3_spreadNow_11 (by decide) ?_
  refine s_i (i := 3) dX3_spreadNow_12 rfl rfl rfl rfl ?_
  dsimp only [List.set]
  exact wX3_spreadNow (l := l) (G := G) hB ht hS h0 (A.1 + 1) 1 (Nat.le_refl _) h0 (by omega)
set_option maxRecDepth 100000 in
theorem mX3_spreadNow0 {l : Launch} {G : ux_G} {h : ux_H} {A B : Ab} {P : Nat} {d : Int} (hB : Inv P B) (ht : B.1 = A.1) (hS : rPs A B d h) (h0 : A.1 = 0) : ux_F l G yX3_spreadNow iX3_spreadNow 3 0 [.ref 179] h (some (.int (iI (pl_sp B)))) (h) := by
  unfold ux_F
  refine ux_ent (L' := [some (.ref 179), none, none, none]) kX3_spreadNow rfl rfl rfl rfl ?_
  refine g_aload_n dX3_spreadNow_0 rfl ?_
  refine g_getr (q := 185) fX3_27 dX3_spreadNow_1 rfl rfl rfl ?_
  refine g_iconst (v := 0) dX3_spreadNow_4 (by decide) ?_
  refine f1_SN (u' := 0) lX3_72 kX5_at (mX5_at (k := 185) (j := 0) rfl (by decide)) dX3_spreadNow_5 rfl rfl rfl rfl rfl rfl ?_
  refine s_i (i := 1) dX3_spreadNow_8 rfl rfl rfl rfl ?_
  dsimp only [List.set]
  refine g_iload_n dX3_spreadNow_9 rfl ?_
  refine s_i (i := 2) dX3_spreadNow_10 rfl rfl rfl rfl ?_
  dsimp only [List.set]
  refine g_iconst (v := 1) dX3_spreadNow_11 (by decide) ?_
  refine s_i (i := 3) dX3_spreadNow_12 rfl rfl rfl rfl ?_
  dsimp only [List.set]
  refine g_iload_n dX3_spreadNow_13 rfl ?_
  refine g_aload_n dX3_spreadNow_14 rfl ?_
  refine g_geti fX3_36 dX3_spreadNow_15 rfl rfl ?_
  refine g_top (y := nI 0) (by rw [← h0]; exact hS.1) ?_
  refine g_icmp_ge (tgt := 53) dX3_spreadNow_18 (by decide) (fun c18 => ?_) (fun c18 => ?_)
  · refine g_iload_n dX3_spreadNow_53 rfl ?_
    refine g_iload_n dX3_spreadNow_54 rfl ?_
    refine g_isub dX3_spreadNow_55 ?_
    refine g_top (y := 0) (by rw [Int32.sub_self]) ?_
    refine g_ireturn dX3_spreadNow_56 rfl rfl (by decide) ?_
    exact ⟨by unfold pl_sp; rw [if_pos (by omega)]; rfl, rfl⟩
  · exact absurd (show nI 0 ≤ (1 : Int32) by decide) c18
theorem mX3_spreadNow {l : Launch} {G : ux_G} {h : ux_H} {A B : Ab} {P : Nat} {d : Int} (hB : Inv P B) (ht : B.1 = A.1) (hS : rPs A B d h) : ux_F l G yX3_spreadNow iX3_spreadNow 3 0 [.ref 179] h (some (.int (iI (pl_sp B)))) h := by
  rcases Nat.eq_zero_or_pos A.1 with q | q
  · exact mX3_spreadNow0 hB ht hS q
  · exact mX3_spreadNow1 hB ht hS q
set_option maxRecDepth 100000 in
theorem wX3_canTake {l : Launch} {G : ux_G} {h : ux_H} {A B : Ab} {P : Nat} {Ls pre : List Nat} {d i t : Nat} (hA : Inv P A) (hi : Ls[pre.length]? = some i) (hl : Ls.length ≤ 4) (hm : ∀ j, j ∈ Ls → j < A.2.1 ∧ aF A 13 j = -1 ∧ aF A 8 j / 6 = (d : Int)) (hR : pl_R A Ls pre B) (hS : rPs A B d h) (hc : rPc A Ls h) (hp : rPp pre h) (ht : t < A.1) (hpb : ∀ (k u : Nat), pre[k]? = some u → u < 8) (q1 : s_bar A i t = 0) (q2 : (s_con B t d : Int) < aF A 3 t) : ∀ (n : Nat) (j : Nat), j ≤ pre.length → (∀ (k z : Nat), k < j → Ls[k]? = some z → pre[k]? = some t → aF A 8 z ≠ aF A 8 i) → pre.length - j < n → ux_W l G iX3_canTake (ux_rm 3 0) (ux_Z G 0 (fun v h' => v = some (.int (if s_bar B i t = 0 then 1 else 0)) ∧ h' = h) (fun _ _ => False)) 30 [some (.ref 179), some (.int (nI pre.length)), some (.int (nI t)), some (.int (nI j))] [] (h) 0 := by
  intro n
  induction n with
  | zero => intro j hj hno hn; exact absurd hn (Nat.not_lt_zero _)
  | succ n ih =>
    intro j hj hno hn
    obtain ⟨i1, i2, i3, i4, i5, i6⟩ := id hA
    have hlt := (List.getElem?_eq_some_iff.mp hi).1
    obtain ⟨hm1, hm2, hm3⟩ := hm i (List.mem_of_getElem? hi)
    have bb := pl_bar (i := i) (t := t) hR (fun j hj => ⟨(hm j hj).1, (hm j hj).2.1⟩)
    have bt := (hc.2 _ i hi).2.2 t ht
    have lim := i4 t ht
    have con := s_cnt_le (fun j => decide (aF B 13 j = (t : Int)) && decide (aF B 8 j / 6 = (d : Int))) B.2.1
    rw [hR.lc] at con
    have con : s_con B t d ≤ A.2.1 := by unfold s_con; rw [hR.lc]; exact con
    have hpb : ∀ (k u : Nat), pre[k]? = some u → u < 8 := hpb
    refine g_iload_n dX3_canTake_30 rfl ?_
    refine g_iload_n dX3_canTake_31 rfl ?_
    refine g_icmp_ge (tgt := 74) dX3_canTake_32 (by decide) (fun c32 => ?_) (fun c32 => ?_)
    · have e : j = pre.length := by have := xlt_i c32 (by omega) (by omega); omega
      have eb : s_bar B i t = 0 := bb.mpr ⟨q1, fun k jj hk => hno k jj (by omega), by rw [hm3]; exact q2⟩
      refine g_iconst (v := 1) dX3_canTake_74 (by decide) ?_
      refine g_ireturn dX3_canTake_75 rfl rfl (by decide) ?_
      exact ⟨by rw [if_pos eb], rfl⟩
    · have hlj : j < pre.length := xnl_i c32 (by omega) (by omega)
      obtain ⟨u, hu⟩ : ∃ u, pre[j]? = some u := ⟨_, List.getElem?_eq_getElem hlj⟩
      obtain ⟨jj, hjj⟩ : ∃ jj, Ls[j]? = some jj := ⟨_, List.getElem?_eq_getElem (by omega)⟩
      obtain ⟨hm4, hm5, hm6⟩ := hm jj (List.mem_of_getElem? hjj)
      have il := i6 jj hm4
      have il2 := i6 i hm1
      have ub : u < 8 := hpb j u hu
      refine g_aload_n dX3_canTake_35 rfl ?_
      refine g_getr (q := 183) fX3_21 dX3_canTake_36 rfl rfl rfl ?_
      refine g_iload_n dX3_canTake_39 rfl ?_
      refine f1_SN (u' := 0) lX3_72 kX5_at (mX5_at (k := 183) rfl (show _ < 4 by omega)) dX3_canTake_40 rfl rfl rfl rfl rfl rfl ?_
      refine g_top (hp j u hu) ?_
      refine g_iload_n dX3_canTake_43 rfl ?_
      refine g_icmp_ne (tgt := 68) dX3_canTake_44 (by decide) (fun c44 => ?_) (fun c44 => ?_)
      · have qc : ¬ u = t := fun y => c44 (by rw [y])
        refine s_inc (v := nI (j + 1)) dX3_canTake_68 rfl nI_s rfl rfl rfl ?_
        dsimp only [List.set]
        refine g_goto (tgt := 30) dX3_canTake_71 (by decide) ?_
        refine ih (j + 1) (by omega) (fun k z hk hz hu2 => ?_) (by omega)
        by_cases e : k = j
        · subst e
          have e1 : z = jj := Option.some.inj (hz.symm.trans hjj)
          have e2 : u = t := Option.some.inj (hu.symm.trans hu2)
          rw [e1]
          first
          | exact absurd e2 qc
          | exact c63
        · exact hno k z (by omega) hz hu2
      · have qc : u = t := by rw [nI_iI, nI_iI, iI_eq (by omega) (by omega) (by omega) (by omega)] at c44; omega
        refine g_aload_n dX3_canTake_47 rfl ?_
        refine g_getr (q := 181) fX3_15 dX3_canTake_48 rfl rfl rfl ?_
        refine g_iload_n dX3_canTake_51 rfl ?_
        refine f1_SN (u' := 0) lX3_72 kX5_at (mX5_at (k := 181) rfl (show _ < 4 by omega)) dX3_canTake_52 rfl rfl rfl rfl rfl rfl ?_
        refine g_top (hc.2 j jj hjj).2.1 ?_
        refine g_aload_n dX3_canTake_55 rfl ?_
        refine g_getr (q := 181) fX3_15 dX3_canTake_56 rfl rfl rfl ?_
        refine g_iload_n dX3_canTake_59 rfl ?_
        refine f1_SN (u' := 0) lX3_72 kX5_at (mX5_at (k := 181) rfl (show _ < 4 by omega)) dX3_canTake_60 rfl rfl rfl rfl rfl rfl ?_
        refine g_top (hc.2 _ i hi).2.1 ?_
        refine g_icmp_ne (tgt := 68) dX3_canTake_63 (by decide) (fun c63 => ?_) (fun c63 => ?_)
        · rw [iI_eq (by omega) (by omega) (by omega) (by omega)] at c63
          refine s_inc (v := nI (j + 1)) dX3_canTake_68 rfl nI_s rfl rfl rfl ?_
          dsimp only [List.set]
          refine g_goto (tgt := 30) dX3_canTake_71 (by decide) ?_
          refine ih (j + 1) (by omega) (fun k z hk hz hu2 => ?_) (by omega)
          by_cases e : k = j
          · subst e
            have e1 : z = jj := Option.some.inj (hz.symm.trans hjj)
            have e2 : u = t := Option.some.inj (hu.symm.trans hu2)
            rw [e1]
            first
            | exact absurd e2 qc
            | exact c63
          · exact hno k z (by omega) hz hu2
        · rw [iI_eq (by omega) (by omega) (by omega) (by omega)] at c63
          have eb : ¬ s_bar B i t = 0 := fun y => (bb.mp y).2.1 j jj hlj hjj (qc ▸ hu) c63
          refine g_iconst (v := 0) dX3_canTake_66 (by decide) ?_
          refine g_ireturn dX3_canTake_67 rfl rfl (by decide) ?_
          exact ⟨by rw [if_neg eb], rfl⟩
set_option maxRecDepth 100000 in
theorem mX3_canTake {l : Launch} {G : ux_G} {h : ux_H} {A B : Ab} {P : Nat} {Ls pre : List Nat} {d i t : Nat} (hA : Inv P A) (hi : Ls[pre.length]? = some i) (hl : Ls.length ≤ 4) (hm : ∀ j, j ∈ Ls → j < A.2.1 ∧ aF A 13 j = -1 ∧ aF A 8 j / 6 = (d : Int)) (hR : pl_R A Ls pre B) (hS : rPs A B d h) (hc : rPc A Ls h) (hp : rPp pre h) (ht : t < A.1) (hpb : ∀ (k u : Nat), pre[k]? = some u → u < 8) : ux_F l G yX3_canTake iX3_canTake 3 0 [.ref 179, .int (nI pre.length), .int (nI t)] h (some (.int (if s_bar B i t = 0 then 1 else 0))) (h) := by
  unfold ux_F
  refine ux_ent (L' := [some (.ref 179), some (.int (nI pre.length)), some (.int (nI t)), none]) kX3_canTake rfl rfl rfl rfl ?_
  obtain ⟨i1, i2, i3, i4, i5, i6⟩ := id hA
  have hlt := (List.getElem?_eq_some_iff.mp hi).1
  obtain ⟨hm1, hm2, hm3⟩ := hm i (List.mem_of_getElem? hi)
  have bb := pl_bar (i := i) (t := t) hR (fun j hj => ⟨(hm j hj).1, (hm j hj).2.1⟩)
  have bt := (hc.2 _ i hi).2.2 t ht
  have lim := i4 t ht
  have con := s_cnt_le (fun j => decide (aF B 13 j = (t : Int)) && decide (aF B 8 j / 6 = (d : Int))) B.2.1
  rw [hR.lc] at con
  have con : s_con B t d ≤ A.2.1 := by unfold s_con; rw [hR.lc]; exact con
  refine g_aload_n dX3_canTake_0 rfl ?_
  refine g_getr (q := 182) fX3_18 dX3_canTake_1 rfl rfl rfl ?_
  refine g_iload_n dX3_canTake_4 rfl ?_
  refine f1_SN (u' := 0) lX3_72 kX5_at (mX5_at (k := 182) rfl (show _ < 4 by omega)) dX3_canTake_5 rfl rfl rfl rfl rfl rfl ?_
  refine g_iload_n dX3_canTake_8 rfl ?_
  refine g_ishr dX3_canTake_9 ?_
  refine g_iconst (v := 1) dX3_canTake_10 (by decide) ?_
  refine g_iand dX3_canTake_11 ?_
  refine g_if_eq (tgt := 26) dX3_canTake_12 (by decide) (fun c12 => ?_) (fun c12 => ?_)
  · have eb : ¬ s_bar B i t = 0 := fun y => (bt.1.mp c12) (bb.mp y).1
    refine g_iconst (v := 0) dX3_canTake_26 (by decide) ?_
    refine g_ireturn dX3_canTake_27 rfl rfl (by decide) ?_
    exact ⟨by rw [if_neg eb], rfl⟩
  · have q1 : s_bar A i t = 0 := Decidable.byContradiction fun y => c12 (bt.1.mpr y)
    refine g_aload_n dX3_canTake_15 rfl ?_
    refine g_getr (q := 186) fX3_30 dX3_canTake_16 rfl rfl rfl ?_
    refine g_iload_n dX3_canTake_19 rfl ?_
    refine f1_SN (u' := 0) lX3_72 kX5_at (mX5_at (k := 186) rfl (show _ < 8 by omega)) dX3_canTake_20 rfl rfl rfl rfl rfl rfl ?_
    refine g_top (hS.2 t ht).2 ?_
    refine g_if_gt (tgt := 28) dX3_canTake_23 (by decide) (fun c23 => ?_) (fun c23 => ?_)
    · rw [iI_0, iI_lt (by omega) (by omega) (by omega) (by omega)] at c23
      refine g_iconst (v := 0) dX3_canTake_28 (by decide) ?_
      refine s_i (i := 3) dX3_canTake_29 rfl rfl rfl rfl ?_
      dsimp only [List.set]
      exact wX3_canTake (l := l) (G := G) hA hi hl hm hR hS hc hp ht hpb q1 (by omega) (pre.length + 1) 0 (Nat.zero_le _) (fun k z hk => absurd hk (Nat.not_lt_zero _)) (by omega)
    · rw [iI_0, iI_lt (by omega) (by omega) (by omega) (by omega)] at c23
      have eb : ¬ s_bar B i t = 0 := fun y => by have := (bb.mp y).2.2; rw [hm3] at this; omega
      refine g_iconst (v := 0) dX3_canTake_26 (by decide) ?_
      refine g_ireturn dX3_canTake_27 rfl rfl (by decide) ?_
      exact ⟨by rw [if_neg eb], rfl⟩
