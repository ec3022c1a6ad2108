/-! THE LAW: read, undo, restore; clear, save, audit; the average. -/
theorem xfill_raw (h : ux_H) (k : Nat) (x : Int32) : ∀ (n a b : Nat), a ≠ k → xfill h k x n a b = h a b := by
  intro n a b hn
  unfold xfill
  rw [if_neg (by omega)]
theorem x_new_ne0 (h : ux_H) (k j : Nat) (hk : 8 ≤ k) : x_new h 0 k j = h k j := by
  unfold x_new
  rw [xfill_raw _ _ _ _ _ _ (by omega), xfill_raw _ _ _ _ _ _ (by omega)]
  unfold xsi xsv
  rw [if_neg (by omega), if_neg (by omega), if_neg (by omega), if_neg (by omega)]
theorem op_read {l : Launch} {G : ux_G} {h : ux_H} {P : Nat} (hR : RLw P h) (hP : P + 13000 ≤ 10000000) : OP P (fun Q => ux_M l G yL_read iL_read 11 1 [.ref 176, .ref 202] h Q (fun _ _ => False)) (fun h1 Q => ux_M l G yX6_read iX6_read 14 0 [.ref 192] h1 Q (fun _ _ => False)) h := by
  obtain ⟨A, Hs, sv, S, L, e9, r9, hI, hA, hB⟩ := hR
  obtain ⟨K, hK⟩ : ∃ K, K = k_read A L := ⟨_, rfl⟩
  obtain ⟨W, hW⟩ : ∃ W, W = (s_tell L 70 A 0 0).getD (A, 0) := ⟨_, rfl⟩
  have fr := s_fe_r L 70 0 (Nat.zero_le _)
  have l70 := hA.2.2.2.2.1.2.1
  refine ⟨K, nI W.2, fun h1 => RA (if K = 0 then W.1 else A) (if K = 0 then (A :: Hs).take 8 else Hs) sv S [] (if K = 1 then s_fe L 70 0 else e9) r9 h1 ∧ (K = 0 → Inv (P + 13000) W.1 ∧ InvF W.1), RB (if K = 0 then W.1 else A) (if K = 0 then (A :: Hs).take 8 else Hs) sv S [] (if K = 1 then s_fe L 70 0 else e9) r9, (by rw [hK]; unfold k_read; (repeat' split) <;> omega), ?_, ?_, ?_, fun h1 h2 t f => ⟨RA_fr t.1 f, t.2⟩⟩
  · refine ux_imp (mL_read (mX5_read hA.2.2.2.2.1 hA.1 hI.1 hI.2.1 hA.2.1 (by omega)) (fun v h1 q => by obtain ⟨A', n, _, e, _⟩ := q; exact ⟨_, e⟩) (fun E h1 q => xc_o2 q.1)) ?_
    rw [← hK]
    refine QA_of (fun v h1 q => ?_) (fun E h1 q => ?_) (fun h1 h2 t f => ⟨RA_fr t.1 f, t.2⟩) (by decide)
    · obtain ⟨A', n, q1, q2, q3, q4, q5, q6, q7, q8, q9⟩ := q
      have eW : W = (A', n) := by rw [hW, q1]; rfl
      subst eW
      refine ⟨q2, q3, ⟨?_, fun _ => ⟨Inv_mono q5 (by omega) hP, q6⟩⟩, fun c c1 c2 j => q9 c j (by omega)⟩
      rw [if_pos q3, if_pos q3, if_neg (by omega)]
      obtain ⟨a1, a2, a3, a4, a5, a6, a7⟩ := hA
      exact ⟨q4, q7, (xgi_eq (q9 176 7 (by decide))).trans a3, fun z => rC_ne (a4 z) fun k z1 z2 j => q9 k j (by omega), q8, (xgi_eq (q9 176 9 (by decide))).trans a6, (xgi_eq (q9 176 8 (by decide))).trans a7⟩
    · obtain ⟨q1, q2, q3, q4, q5, q6⟩ := q
      have q7 := xc_pos q1
      refine ⟨q1, ⟨?_, fun z => absurd z q7⟩, fun c c1 c2 j => q5 c j (by omega)⟩
      rw [if_neg q7, if_neg q7]
      obtain ⟨a1, a2, a3, a4, a5, a6, a7⟩ := hA
      refine ⟨q2, q3, (xgi_eq (q5 176 7 (by decide))).trans a3, fun z => rC_ne (a4 z) fun k z1 z2 j => q5 k j (by omega), q4, ?_, (xgi_eq (q5 176 8 (by decide))).trans a7⟩
      rw [q6, a6]
      by_cases z : K = 1
      · rw [if_pos z, if_pos z]
      · rw [if_neg z, if_neg z]
  · intro h1 f
    have hB1 := RB_fr hB f
    refine ux_imp (mX6_read hB1.2.2.2.1 hB1.1 hB1.2.1 hI.1 hI.2.1 (by omega)) ?_
    unfold QRd
    rw [← hK]
    rintro v h' ⟨⟨z, e1, e2⟩, e3, e4, e5, e6, e7⟩
    obtain ⟨a1, a2, a3, a4, a5, a6⟩ := hB1
    have e9' : xgi h' 192 9 = iI (if K = 1 then s_fe L 70 0 else e9) := by
      rw [e7, a5]
      by_cases z : K = 1
      · rw [if_pos z, if_pos z]
      · rw [if_neg z, if_neg z]
    have rest : rS sv S h' := rS_of a3 (e6.2 3 (by decide)) (fun j => e6.1 194 (by decide) j)
    by_cases k0 : K = 0
    · obtain ⟨A', n, q1, q2, q3, q4⟩ := e2 k0
      have eW : W = (A', n) := by rw [hW, q1]; rfl
      subst eW
      refine ⟨⟨z, e1, fun _ => q2⟩, e3, ?_, fun c hc j => e6.1 c (by omega) j⟩
      rw [if_pos k0, if_pos k0]
      exact ⟨q3, q4, rest, e5, e9', (xgi_eq (e6.2 10 (by decide))).trans a6⟩
    · obtain ⟨q3, q4⟩ := e4 k0
      refine ⟨⟨z, e1, fun q => absurd q k0⟩, e3, ?_, fun c hc j => e6.1 c (by omega) j⟩
      rw [if_neg k0, if_neg k0]
      exact ⟨q3, q4, rest, e5, e9', (xgi_eq (e6.2 10 (by decide))).trans a6⟩
  · refine fun h1 ta tb => ⟨_, _, _, _, _, _, _, ?_, ta.1, tb⟩
    obtain ⟨z1, z2, z3, z4, z5, z6⟩ := RI_ch (K := K) (A2 := W.1) hI hP ta.2
    refine ⟨z1, z2, z3, z4, ?_, z6⟩
    by_cases q : K = 1
    · rw [if_pos q]; omega
    · rw [if_neg q]; exact z5
theorem op_undo {l : Launch} {G : ux_G} {h : ux_H} {P : Nat} (hR : RLw P h) (hP : P + 13000 ≤ 10000000) : OP P (fun Q => ux_M l G yL_undo iL_undo 6 1 [.ref 176, .ref 202] h Q (fun _ _ => False)) (fun h1 Q => ux_M l G yX6_undo iX6_undo 2 0 [.ref 192] h1 Q (fun _ _ => False)) h := by
  obtain ⟨A, Hs, sv, S, L, e9, r9, hI, hA, hB⟩ := hR
  cases Hs with
  | nil =>
    refine ⟨1, 0, RA A [] sv S L e9 r9, RB A [] sv S L e9 r9, by decide, ?_, ?_, fun h1 ta tb => ⟨_, _, _, _, _, _, _, RI_mono hI (by omega) hP, ta, tb⟩, fun h1 h2 t f => RA_fr t f⟩
    · refine ux_imp (mL_undo (mX5_undo0 hA.2.1) (fun v h1 q => q.elim) (fun E h1 q => q.1)) ?_
      exact QA_of (fun v h1 q => q.elim) (fun E h1 q => ⟨xc_mk (k := 1) rfl (by decide) (by rw [q.1]; rfl), by rw [q.2]; exact hA, fun _ _ _ _ => by rw [q.2]⟩) (fun h1 h2 t f => RA_fr t f) (by decide)
    · intro h1 f
      have hB1 := RB_fr hB f
      refine ux_imp (mX6_undo0 hB1.1 hB1.2.1) ?_
      rintro v h' ⟨e1, e2, e3, e4, e5⟩
      exact ⟨⟨_, e1, fun q => absurd q (by decide)⟩, e2, RB_mk hB1 e3 e4 e5, fun c hc j => e5.1 c (by omega) j⟩
  | cons B Hs =>
    obtain ⟨jB, jF⟩ := hI.2.2.1 B List.mem_cons_self
    refine ⟨0, nI Hs.length, RA B Hs sv S L e9 r9, RB B Hs sv S L e9 r9, by decide, ?_, ?_, ?_, fun h1 h2 t f => RA_fr t f⟩
    · refine ux_imp (mL_undo (mX5_undo1 hA.2.1 jB.1 jB.2.1) (fun v h1 q => ⟨_, q.1⟩) (fun E h1 q => q.elim)) ?_
      refine QA_of (fun v h1 q => ?_) (fun E h1 q => q.elim) (fun h1 h2 t f => RA_fr t f) (by decide)
      obtain ⟨q1, q2, q3, q4⟩ := q
      exact ⟨q1, rfl, RA_mk hA q2 q3 fun c j hc => q4 c (by omega) (by omega) j, fun c c1 c2 j => q4 c (by omega) (by omega) j⟩
    · intro h1 f
      have hB1 := RB_fr hB f
      refine ux_imp (mX6_undo1 hB1.2.1) ?_
      rintro v h' ⟨e1, e2, e3, e4, e5⟩
      exact ⟨⟨_, e1, fun _ => rfl⟩, e2, RB_mk hB1 e3 e4 e5, fun c hc j => e5.1 c (by omega) j⟩
    · intro h1 ta tb
      obtain ⟨z1, z2, z3, z4, z5⟩ := RI_mono hI (show P ≤ P + 13000 by omega) hP
      exact ⟨_, _, _, _, _, _, _, ⟨(z3 B List.mem_cons_self).1, (z3 B List.mem_cons_self).2, fun C hC => z3 C (List.mem_cons_of_mem _ hC), z4, z5⟩, ta, tb⟩
theorem op_restore {l : Launch} {G : ux_G} {h : ux_H} {P : Nat} (hR : RLw P h) (hP : P + 13000 ≤ 10000000) : OP P (fun Q => ux_M l G yL_restore iL_restore 4 1 [.ref 176, .ref 202] h Q (fun _ _ => False)) (fun h1 Q => ux_M l G yX6_restore iX6_restore 3 0 [.ref 192] h1 Q (fun _ _ => False)) h := by
  obtain ⟨A, Hs, sv, S, L, e9, r9, hI, hA, hB⟩ := hR
  obtain ⟨a1, a2, a3, a4, a5, a6, a7⟩ := id hA
  have hm := mX5_restore (l := l) (G := G) a3 (fun q => ⟨a4 q, (hI.2.2.2.1 q).1.1, (hI.2.2.2.1 q).1.2.1⟩)
  cases sv with
  | false =>
    refine ⟨1, 0, RA A Hs false S L e9 r9, RB A Hs false S L e9 r9, by decide, ?_, ?_, fun h1 ta tb => ⟨_, _, _, _, _, _, _, RI_mono hI (by omega) hP, ta, tb⟩, fun h1 h2 t f => RA_fr t f⟩
    · refine ux_imp (mL_restore hm (fun v h1 q => ⟨_, q.1⟩) (fun E h1 q => q.1)) ?_
      exact QA_of (fun v h1 q => absurd q.2.2 (by decide)) (fun E h1 q => ⟨xc_mk (k := 1) rfl (by decide) (by rw [q.1]; rfl), by rw [q.2.1]; exact hA, fun _ _ _ _ => by rw [q.2.1]⟩) (fun h1 h2 t f => RA_fr t f) (by decide)
    · intro h1 f
      have hB1 := RB_fr hB f
      refine ux_imp (mX6_restore0 hB1.2.2.1 hB1.1 hB1.2.1) ?_
      rintro v h' ⟨e1, e2, e3, e4, e5⟩
      exact ⟨⟨_, e1, fun q => absurd q (by decide)⟩, e2, RB_mk hB1 e3 e4 e5, fun c hc j => e5.1 c (by omega) j⟩
  | true =>
    obtain ⟨jB, jF⟩ := hI.2.2.2.1 rfl
    refine ⟨0, nI S.2.1, RA S [] true S L e9 r9, RB S [] true S L e9 r9, by decide, ?_, ?_, ?_, fun h1 h2 t f => RA_fr t f⟩
    · refine ux_imp (mL_restore hm (fun v h1 q => ⟨_, q.1⟩) (fun E h1 q => q.1)) ?_
      refine QA_of (fun v h1 q => ?_) (fun E h1 q => absurd q.2.2 (by decide)) (fun h1 h2 t f => RA_fr t f) (by decide)
      obtain ⟨q1, rfl, _⟩ := q
      have e : ∀ k j, 16 ≤ k → ¬ (k = 177 ∧ j = 2) → x_rest h k j = h k j := fun k j z1 z2 => by
        unfold x_rest xsi xsv
        rw [if_neg z2]
        exact x_cp_ne _ _ _ (by omega) j
      refine ⟨q1, rfl, RA_mk hA ?_ ?_ fun c j hc => e c j (by omega) (by omega), fun c c1 c2 j => e c j (by omega) (by omega)⟩
      · exact rC_si (rC_cp (ca := 0) (cb := 16) ⟨by decide, by decide⟩ ⟨by decide, by decide⟩ (by decide) (a4 rfl) jB.1 jB.2.1) (by decide)
      · exact rH_nil (rH_ne a2 fun k z1 z2 z3 j => x_cp_ne _ _ _ (by omega) j)
    · intro h1 f
      have hB1 := RB_fr hB f
      refine ux_imp (mX6_restore1 hB1.2.2.1) ?_
      rintro v h' ⟨e1, e2, e3, e4, e5⟩
      exact ⟨⟨_, e1, fun _ => rfl⟩, e2, RB_mk hB1 e3 e4 e5, fun c hc j => e5.1 c (by omega) j⟩
    · intro h1 ta tb
      obtain ⟨z1, z2, z3, z4, z5⟩ := RI_mono hI (show P ≤ P + 13000 by omega) hP
      exact ⟨_, _, _, _, _, _, _, ⟨(z4 rfl).1, (z4 rfl).2, fun C hC => absurd hC (by simp), z4, z5⟩, ta, tb⟩
/-- a call whose answers are compared at once -/
def OQ (P : Nat) (MA : (Option Value → ux_H → Prop) → Prop) (MB : ux_H → (Option Value → ux_H → Prop) → Prop) (h : ux_H) : Prop :=
  ∃ (R : Int32) (TA TB : ux_H → Prop), MA (fun v h1 => v = some (.int R) ∧ TA h1 ∧ ∀ c, 192 ≤ c → c < 202 → ∀ j, h1 c j = h c j) ∧ (∀ h1, (∀ c, 192 ≤ c → c < 202 → ∀ j, h1 c j = h c j) → MB h1 (fun v h2 => v = some (.int R) ∧ TB h2 ∧ ∀ c, c < 192 ∨ 201 < c → ∀ j, h2 c j = h1 c j)) ∧ (∀ h1, TA h1 → TB h1 → RLw (P + 13000) h1) ∧ ∀ h1 h2 : ux_H, TA h1 → (∀ c, c < 192 → ∀ j, h2 c j = h1 c j) → TA h2
theorem oq_clear {l : Launch} {G : ux_G} {h : ux_H} {P : Nat} (hR : RLw P h) (hP : P + 13000 ≤ 10000000) : OQ P (fun Q => ux_M l G yX5_clear iX5_clear 3 0 [.ref 176] h Q (fun _ _ => False)) (fun h1 Q => ux_M l G yX6_clear iX6_clear 3 0 [.ref 192] h1 Q (fun _ _ => False)) h := by
  obtain ⟨A, Hs, sv, S, L, e9, r9, hI, hA, hB⟩ := hR
  refine ⟨nI A.2.1, RA s_new [] sv S L e9 r9, RB s_new [] sv S L e9 r9, ?_, ?_, ?_, fun h1 h2 t f => RA_fr t f⟩
  · refine ux_imp (mX5_clear hA.1) ?_
    rintro v h1 ⟨rfl, rfl⟩
    have e0 : ∀ k j, 16 ≤ k → x_new h 0 k j = h k j := fun k j z1 => x_new_ne0 h k j (by omega)
    have e : ∀ k j, 16 ≤ k → ¬ (k = 177 ∧ j = 2) → xsi (x_new h 0) 177 2 0 k j = h k j := fun k j z1 z2 => by
      unfold xsi xsv
      rw [if_neg z2]
      exact e0 k j z1
    exact ⟨rfl, RA_mk hA (rC_si (rC_new h 0) (by decide)) (rH_nil (rH_ne hA.2.1 fun k z1 _ _ j => e0 k j (by omega))) fun c j hc => e c j (by omega) (by omega), fun c c1 c2 j => e c j (by omega) (by omega)⟩
  · intro h1 f
    have hB1 := RB_fr hB f
    refine ux_imp (mX6_clear hB1.1) ?_
    rintro v h' ⟨e1, e2, e3, e4, e5⟩
    exact ⟨e1, RB_mk hB1 e3 e4 e5, fun c hc j => e5.1 c (by omega) j⟩
  · intro h1 ta tb
    obtain ⟨z1, z2, z3, z4, z5⟩ := RI_mono hI (show P ≤ P + 13000 by omega) hP
    exact ⟨_, _, _, _, _, _, _, ⟨Inv_mono Inv_new (by omega) hP, InvF_new, fun C hC => absurd hC (by simp), z4, z5⟩, ta, tb⟩
theorem oq_save {l : Launch} {G : ux_G} {h : ux_H} {P : Nat} (hR : RLw P h) (hP : P + 13000 ≤ 10000000) : OQ P (fun Q => ux_M l G yX5_save iX5_save 3 0 [.ref 176] h Q (fun _ _ => False)) (fun h1 Q => ux_M l G yX6_save iX6_save 3 0 [.ref 192] h1 Q (fun _ _ => False)) h := by
  obtain ⟨A, Hs, sv, S, L, e9, r9, hI, hA, hB⟩ := hR
  refine ⟨nI A.2.1, RA A Hs true A L e9 r9, RB A Hs true A L e9 r9, ?_, ?_, ?_, fun h1 h2 t f => RA_fr t f⟩
  · refine ux_imp (mX5_save hA.1) ?_
    rintro v h1 ⟨rfl, rfl⟩
    obtain ⟨a1, a2, a3, a4, a5, a6, a7⟩ := hA
    have e : ∀ k j, (k < 16 ∨ 31 < k) → ¬ (k = 176 ∧ j = 7) → x_save h k j = h k j := fun k j z1 z2 => by
      unfold x_save xsi xsv
      rw [if_neg z2]
      exact x_cp_ne _ _ _ (by omega) j
    exact ⟨rfl, ⟨rC_ne a1 fun k _ z j => e k j (by omega) (by omega), rH_ne a2 fun k z1 z2 z3 j => e k j (by omega) (by omega), xgi_si _ _ _ _, fun _ => rC_si (rC_cp (ca := 16) (cb := 0) ⟨by decide, by decide⟩ ⟨by decide, by decide⟩ (by decide) a1 hI.1.1 hI.1.2.1) (by decide), rI_of a5 (fun j => e 188 j (by decide) (by omega)) (fun j => e 189 j (by decide) (by omega)), (xgi_eq (e 176 9 (by decide) (by decide))).trans a6, (xgi_eq (e 176 8 (by decide) (by decide))).trans a7⟩, fun c c1 c2 j => e c j (by omega) (by omega)⟩
  · intro h1 f
    obtain ⟨a1, a2, a3, a4, a5, a6⟩ := RB_fr hB f
    refine ux_imp (mX6_save a1 hI.1.1 hI.1.2.1) ?_
    rintro v h' ⟨e1, e2, e3, e4, e5⟩
    exact ⟨e1, ⟨e3, rK_fr a2 (fun j => e5.1 196 (by decide) j) (e5.2 6 (by decide) (by decide)), e4, rIm_of a4 (e5.2 8 (by decide) (by decide)) (fun j => e5.1 197 (by decide) j), (xgi_eq (e5.2 9 (by decide) (by decide))).trans a5, (xgi_eq (e5.2 10 (by decide) (by decide))).trans a6⟩, fun c hc j => e5.1 c (by omega) j⟩
  · intro h1 ta tb
    obtain ⟨z1, z2, z3, z4, z5⟩ := RI_mono hI (show P ≤ P + 13000 by omega) hP
    exact ⟨_, _, _, _, _, _, _, ⟨z1, z2, z3, fun _ => ⟨z1, z2⟩, z5⟩, ta, tb⟩
theorem oq_audit {l : Launch} {G : ux_G} {h : ux_H} {P : Nat} (hR : RLw P h) (hP : P + 13000 ≤ 10000000) : OQ P (fun Q => ux_M l G yX5_audit iX5_audit 6 0 [.ref 176] h Q (fun _ _ => False)) (fun h1 Q => ux_M l G yX6_audit iX6_audit 7 0 [.ref 192] h1 Q (fun _ _ => False)) h := by
  obtain ⟨A, Hs, sv, S, L, e9, r9, hI, hA, hB⟩ := hR
  refine ⟨nI (s_cnt (fun t => decide (aF A 4 t ≠ s_anew A t A.2.1)) A.1), RA A Hs sv S L e9 r9, RB A Hs sv S L e9 r9, ?_, ?_, fun h1 ta tb => ⟨_, _, _, _, _, _, _, RI_mono hI (by omega) hP, ta, tb⟩, fun h1 h2 t f => RA_fr t f⟩
  · refine ux_imp (mX5_audit hA.1 hI.1 hI.2.1) ?_
    rintro v h1 ⟨rfl, rfl⟩
    exact ⟨rfl, hA, fun _ _ _ _ => rfl⟩
  · intro h1 f
    have hB1 := RB_fr hB f
    refine ux_imp (mX6_audit hB1.1 hB1.2.1 hI.1 hI.2.1) ?_
    rintro v h' ⟨e1, e2, e3, e4, e5⟩
    exact ⟨by rw [e1, if_pos rfl], RB_mk hB1 e3 e4 e5, fun c hc j => e5.1 c (by omega) j⟩
/-- the average: doubles -/
def OD (P : Nat) (MA : (Option Value → ux_H → Prop) → Prop) (MB : ux_H → (Option Value → ux_H → Prop) → Prop) (h : ux_H) : Prop :=
  ∃ (K : Nat) (y : UInt64) (TA TB : ux_H → Prop), K ≤ 100 ∧ MA (fun v h' => v = some (.int (nI K)) ∧ (K = 0 → h' 203 0 = .double y) ∧ TA h' ∧ ∀ c, 192 ≤ c → c < 202 → ∀ j, h' c j = h c j) ∧ (∀ h1, (∀ c, 192 ≤ c → c < 202 → ∀ j, h1 c j = h c j) → MB h1 (fun v h2 => (∃ z, v = some (.double z) ∧ (K = 0 → z = y)) ∧ xgi h2 192 0 = nI K ∧ TB h2 ∧ ∀ c, c < 192 ∨ 201 < c → ∀ j, h2 c j = h1 c j)) ∧ (∀ h1, TA h1 → TB h1 → RLw (P + 13000) h1) ∧ ∀ h1 h2 : ux_H, TA h1 → (∀ c, c < 192 → ∀ j, h2 c j = h1 c j) → TA h2
theorem od_averagePoints {l : Launch} {G : ux_G} {h : ux_H} {P : Nat} {a : Int} (hR : RLw P h) (hP : P + 13000 ≤ 10000000) (ra : -2147483648 ≤ a ∧ a ≤ 2147483647) : OD P (fun Q => ux_M l G yL_averagePoints iL_averagePoints 6 1 [.ref 176, .int (iI a), .ref 203] h Q (fun _ _ => False)) (fun h1 Q => ux_M l G yX6_averagePoints iX6_averagePoints 6 0 [.ref 192, .int (iI a)] h1 Q (fun _ _ => False)) h := by
  obtain ⟨A, Hs, sv, S, L, e9, r9, hI, hA, hB⟩ := hR
  refine ⟨k_avg A a, x_avg A a, RA A Hs sv S L e9 r9, RB A Hs sv S L e9 r9, (by unfold k_avg; (repeat' split) <;> omega), ?_, ?_, fun h1 ta tb => ⟨_, _, _, _, _, _, _, RI_mono hI (by omega) hP, ta, tb⟩, fun h1 h2 t f => RA_fr t f⟩
  · refine ux_imp (mL_averagePoints (mX5_averagePoints hA.1 hI.1 hI.2.1 ra) (fun v h1 q => ⟨_, q.1⟩) (fun E h1 q => xc_o2 q.2)) ?_
    rintro v h' (⟨rfl, z, h1, q, rfl⟩ | ⟨k, E, e1, rfl, q⟩)
    · obtain ⟨q1, rfl, q3⟩ := q
      have ez : z = x_avg A a := Value.double.inj (Option.some.inj q1)
      subst ez
      refine ⟨by rw [q3]; rfl, fun _ => by unfold xsv; rw [if_pos ⟨rfl, rfl⟩], RA_fr hA fun c hc j => by unfold xsv; rw [if_neg (by omega)], fun c c1 c2 j => by unfold xsv; rw [if_neg (by omega)]⟩
    · obtain ⟨rfl, x1, x2⟩ := q
      have hk : k < 2 := by
        rcases Nat.lt_or_ge k 2 with z | z
        · exact z
        · rw [List.getElem?_eq_none (by simpa using z)] at e1; cases e1
      have e2 : k = k_avg A a - 1 := (List.getElem?_inj hk (by decide)).mp (e1.trans x2.symm)
      refine ⟨?_, fun q => by omega, hA, fun _ _ _ _ => rfl⟩
      rw [show k + 1 = k_avg A a by omega]
  · intro h1 f
    have hB1 := RB_fr hB f
    refine ux_imp (mX6_averagePoints hB1.1 hB1.2.1 hI.1 hI.2.1 ra) ?_
    rintro v h' ⟨e1, e2, e3, e4, e5⟩
    exact ⟨e1, e2, RB_mk hB1 e3 e4 e5, fun c hc j => e5.1 c (by omega) j⟩
