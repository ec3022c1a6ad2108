/-! THE CLASS: the planner goes through the plans: by how many lessons are left. -/
def pl_H (A : Ab) (Ls : List Nat) (P d : Nat) : Prop := Inv P A ∧ P + 100 ≤ 10000000 ∧ Ls.length ≤ 4 ∧ Ls.Nodup ∧ ∀ j, j ∈ Ls → j < A.2.1 ∧ aF A 13 j = -1 ∧ aF A 8 j / 6 = (d : Int)
def pl_S (A : Ab) (Ls : List Nat) (d : Nat) (B : Ab) (pre : List Nat) (a : pl_A) (h : ux_H) : Prop := rPs A B (d : Int) h ∧ rPc A Ls h ∧ rPp pre h ∧ rPa Ls.length a h
set_option maxRecDepth 100000 in
theorem mX3_extend0 {l : Launch} {G : ux_G} {h : ux_H} {A : Ab} {Ls : List Nat} {P d : Nat} (hH : pl_H A Ls P d) {R : List Nat} {B : Ab} {pre : List Nat} {a : pl_A} {PB c : Nat} (hR : pl_R A Ls pre B) (hB : Inv PB B) (hPB : PB + 6 * R.length ≤ 10000000) (hd : Ls.drop pre.length = R) (hpb : ∀ (k u : Nat), pre[k]? = some u → u < 8) (hk : okA c a) (hcc : c + 8 ^ R.length ≤ 500000) (hS : pl_S A Ls d B pre a h) (hr : R.length = 0) : ux_M l G yX3_extend iX3_extend 5 0 [.ref 179, .int (nI pre.length)] h (fun v h' => v = none ∧ pl_S A Ls d B pre (pl_go R B pre a) h' ∧ x_frK h h') (fun _ _ => False) := by
  refine ux_ent (L' := [some (.ref 179), some (.int (nI pre.length)), none]) kX3_extend rfl rfl rfl rfl ?_
  have hc5 : c ≤ 500000 := Nat.le_trans (Nat.le_add_right _ _) hcc
  have dl := congrArg List.length hd
  rw [List.length_drop] at dl
  have l4 := hH.2.2.1
  have ll := hR.len
  refine g_iload_n dX3_extend_0 rfl ?_
  refine g_aload_n dX3_extend_1 rfl ?_
  refine g_geti fX3_40 dX3_extend_2 rfl rfl ?_
  refine g_top hS.2.1.1 ?_
  refine g_icmp_ge (tgt := 13) dX3_extend_5 (by decide) (fun c5 => ?_) (fun c5 => ?_)
  · refine g_aload_n dX3_extend_13 rfl ?_
    refine f0_V (u' := 0) lX3_100 kX3_judge (mX3_judge hB hR.tc hS.1 hS.2.2.2 (by have := hk.1; omega) hk.2) dX3_extend_14 rfl rfl rfl rfl rfl rfl rfl rfl ?_
    refine g_return dX3_extend_17 rfl (by decide) ?_
    have e : pl_go R B pre a = pl_jd B pre a := by rw [List.length_eq_zero_iff.mp hr]; rfl
    rw [e]
    refine ⟨rfl, ⟨⟨(x_jd_g _ _ _ _ (by omega)).trans hS.1.1, fun t ht => ?_⟩, ⟨(x_jd_g _ _ _ _ (by omega)).trans hS.2.1.1, fun k i hki => ?_⟩, fun k t hkt => (x_jd_g _ _ _ _ (by omega)).trans (hS.2.2.1 k t hkt), rPa_jd hS.2.2.2 hS.2.2.1 (by omega) hH.2.2.1⟩, x_frK_jd _ _ _ _⟩
    · rw [x_jd_g _ _ _ _ (k := 185) (by omega), x_jd_g _ _ _ _ (k := 186) (by omega)]; exact hS.1.2 t ht
    · rw [x_jd_g _ _ _ _ (k := 180) (by omega), x_jd_g _ _ _ _ (k := 181) (by omega), x_jd_g _ _ _ _ (k := 182) (by omega)]
      obtain ⟨c1, c2, c3⟩ := hS.2.1.2 k i hki
      refine ⟨c1, c2, fun t ht => ?_⟩
      rw [x_jd_g _ _ _ _ (k := 187) (by omega)]
      exact c3 t ht
  · exact absurd ((nI_leI (by omega) (by omega)).mpr (by omega)) c5
