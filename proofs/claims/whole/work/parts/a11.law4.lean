/-! THE LAW: the reading calls, both sides, and those with ways of their own. -/
def x_f5 (h h1 : ux_H) : Prop := ∀ c, (c < 179 ∨ c = 188 ∨ c = 189 ∨ 192 ≤ c) → ∀ j, h1 c j = h c j
theorem x_f5_e {h h1 : ux_H} (e : h1 = h) : x_f5 h h1 := fun _ _ _ => by rw [e]
theorem x_f5_K {h h1 : ux_H} (a : x_frK h h1) : x_f5 h h1 := fun c hc j => a c (by omega) j
theorem x_f5_L {h h1 : ux_H} (a : x_frL h h1) : x_f5 h h1 := fun c hc j => a c (by omega) (by omega) j
theorem RA_5 {A : Ab} {Hs : List Ab} {sv : Bool} {S : Ab} {L : List Nat} {e r : Int} {h h1 : ux_H} (hA : RA A Hs sv S L e r h) (f : x_f5 h h1) : RA A Hs sv S L e r h1 :=
  RA_mk hA (rC_ne hA.1 fun k _ q j => f k (by omega) j) (rH_ne hA.2.1 fun k _ q _ j => f k (by omega) j) fun c j hc => f c (by omega) j
theorem QA_r {Q : Option Value → ux_H → Prop} {X : String → ux_H → Prop} {Es : List String} {K : Nat} {R : Int32} {A : Ab} {Hs : List Ab} {sv : Bool} {S : Ab} {L : List Nat} {e r : Int} {h : ux_H} (hA : RA A Hs sv S L e r h) (hq : ∀ v h1, Q v h1 → v = some (.int R) ∧ K = 0 ∧ x_f5 h h1) (hx : ∀ E h1, X E h1 → x_f5 h h1 ∧ xc K Es E) (hn : Es.Nodup) :
    ∀ v h', QW Q X Es v h' → QA K R (RA A Hs sv S L e r) h v h' := by
  refine QA_of (fun v h1 q => ?_) (fun E h1 q => ?_) (fun h1 h2 t f => RA_fr t f) hn
  · obtain ⟨q1, q2, q5⟩ := hq v h1 q
    exact ⟨q1, q2, RA_5 hA q5, fun c c1 c2 j => q5 c (by omega) j⟩
  · obtain ⟨q1, q2⟩ := hx E h1 q
    exact ⟨q2, RA_5 hA q1, fun c c1 c2 j => q1 c (by omega) j⟩
theorem QB_cv {K K' : Nat} {R R' : Int32} {T : ux_H → Prop} {h : ux_H} (hk : K' = K) (hr : K = 0 → R' = R) : ∀ v h', QB K' R' T h v h' → QB K R T h v h' := by
  rintro v h' ⟨⟨x, e1, e2⟩, q⟩
  subst hk
  exact ⟨⟨x, e1, fun z => (e2 z).trans (hr z)⟩, q⟩
theorem op_count {l : Launch} {G : ux_G} {h : ux_H} {P : Nat} {w : Int} (hR : RLw P h) (hP : P + 13000 ≤ 10000000) (rw : -2147483648 ≤ w ∧ w ≤ 2147483647) : OP P (fun Q => ux_M l G yL_count iL_count 6 1 [.ref 176, .int (iI w), .ref 202] h Q (fun _ _ => False)) (fun h1 Q => ux_M l G yX6_count iX6_count 7 0 [.ref 192, .int (iI w)] h1 Q (fun _ _ => False)) h := by
  obtain ⟨A, Hs, sv, S, L, e9, r9, hI, hA, hB⟩ := hR
  refine ⟨(k_count w), (iI (r_count A w)), RA A Hs sv S L e9 r9, RB A Hs sv S L e9 r9, (by unfold k_count; (repeat' split) <;> omega), ?_, ?_, ?_, fun h1 h2 t f => RA_fr t f⟩
  · exact ux_imp (mL_count (mX5_count hA.1 hI.1 hI.2.1 rw) (fun v h1 q => ⟨_, q.1⟩) (fun E h1 q => xc_o1 q.2)) (QA_r hA (fun v h1 q => ⟨q.1, q.2.2, x_f5_e q.2.1⟩) (fun E h1 q => ⟨x_f5_e q.1, q.2⟩) (by decide))
  · intro h1 f
    have hB1 := RB_fr hB f
    exact ux_imp (mX6_count rw hB1.1 hB1.2.1 hI.1 hI.2.1) (QB_R hB1)
  · exact fun h1 ta tb => ⟨_, _, _, _, _, _, _, RI_mono hI (by omega) hP, ta, tb⟩
theorem op_lesson {l : Launch} {G : ux_G} {h : ux_H} {P : Nat} {a w : Int} (hR : RLw P h) (hP : P + 13000 ≤ 10000000) (ra : -2147483648 ≤ a ∧ a ≤ 2147483647) (rw : -2147483648 ≤ w ∧ w ≤ 2147483647) : OP P (fun Q => ux_M l G yL_lesson iL_lesson 7 2 [.ref 176, .int (iI a), .int (iI w), .ref 202] h Q (fun _ _ => False)) (fun h1 Q => ux_M l G yX6_lesson iX6_lesson 6 0 [.ref 192, .int (iI a), .int (iI w)] h1 Q (fun _ _ => False)) h := by
  obtain ⟨A, Hs, sv, S, L, e9, r9, hI, hA, hB⟩ := hR
  refine ⟨(k_lesson A a w), (iI (r_lesson A a.toNat w)), RA A Hs sv S L e9 r9, RB A Hs sv S L e9 r9, (by unfold k_lesson; (repeat' split) <;> omega), ?_, ?_, ?_, fun h1 h2 t f => RA_fr t f⟩
  · exact ux_imp (mL_lesson (mX5_lesson hA.1 hI.1 hI.2.1 ra rw) (fun v h1 q => ⟨_, q.1⟩) (fun E h1 q => xc_o2 q.2)) (QA_r hA (fun v h1 q => ⟨q.1, q.2.2, x_f5_e q.2.1⟩) (fun E h1 q => ⟨x_f5_e q.1, q.2⟩) (by decide))
  · intro h1 f
    have hB1 := RB_fr hB f
    exact ux_imp (mX6_lesson ra rw hB1.1 hB1.2.1 hI.1 hI.2.1) (QB_R hB1)
  · exact fun h1 ta tb => ⟨_, _, _, _, _, _, _, RI_mono hI (by omega) hP, ta, tb⟩
theorem op_teacher {l : Launch} {G : ux_G} {h : ux_H} {P : Nat} {a w : Int} (hR : RLw P h) (hP : P + 13000 ≤ 10000000) (ra : -2147483648 ≤ a ∧ a ≤ 2147483647) (rw : -2147483648 ≤ w ∧ w ≤ 2147483647) : OP P (fun Q => ux_M l G yL_teacher iL_teacher 7 2 [.ref 176, .int (iI a), .int (iI w), .ref 202] h Q (fun _ _ => False)) (fun h1 Q => ux_M l G yX6_teacher iX6_teacher 7 0 [.ref 192, .int (iI a), .int (iI w)] h1 Q (fun _ _ => False)) h := by
  obtain ⟨A, Hs, sv, S, L, e9, r9, hI, hA, hB⟩ := hR
  refine ⟨(k_teacher A a w), (iI (r_teacher A a.toNat w)), RA A Hs sv S L e9 r9, RB A Hs sv S L e9 r9, (by unfold k_teacher; (repeat' split) <;> omega), ?_, ?_, ?_, fun h1 h2 t f => RA_fr t f⟩
  · exact ux_imp (mL_teacher (mX5_teacher hA.1 hI.1 hI.2.1 ra rw) (fun v h1 q => ⟨_, q.1⟩) (fun E h1 q => xc_o2 q.2)) (QA_r hA (fun v h1 q => ⟨q.1, q.2.2, x_f5_e q.2.1⟩) (fun E h1 q => ⟨x_f5_e q.1, q.2⟩) (by decide))
  · intro h1 f
    have hB1 := RB_fr hB f
    exact ux_imp (mX6_teacher ra rw hB1.1 hB1.2.1 hI.1 hI.2.1) (QB_R hB1)
  · exact fun h1 ta tb => ⟨_, _, _, _, _, _, _, RI_mono hI (by omega) hP, ta, tb⟩
theorem op_lessonOf {l : Launch} {G : ux_G} {h : ux_H} {P : Nat} {a b : Int} (hR : RLw P h) (hP : P + 13000 ≤ 10000000) (ra : -2147483648 ≤ a ∧ a ≤ 2147483647) (rb : -2147483648 ≤ b ∧ b ≤ 2147483647) : OP P (fun Q => ux_M l G yL_lessonOf iL_lessonOf 5 3 [.ref 176, .int (iI a), .int (iI b), .ref 202] h Q (fun _ _ => False)) (fun h1 Q => ux_M l G yX6_lessonOf iX6_lessonOf 5 0 [.ref 192, .int (iI a), .int (iI b)] h1 Q (fun _ _ => False)) h := by
  obtain ⟨A, Hs, sv, S, L, e9, r9, hI, hA, hB⟩ := hR
  refine ⟨(k_lessonOf A a b), (iI (s_find A 9 a b)), RA A Hs sv S L e9 r9, RB A Hs sv S L e9 r9, (by unfold k_lessonOf; (repeat' split) <;> omega), ?_, ?_, ?_, fun h1 h2 t f => RA_fr t f⟩
  · exact ux_imp (mL_lessonOf (mX5_lessonOf hA.1 hI.1 hI.2.1 ra rb) (fun v h1 q => ⟨_, q.1⟩) (fun E h1 q => xc_o2 q.2)) (QA_r hA (fun v h1 q => ⟨q.1, q.2.2, x_f5_e q.2.1⟩) (fun E h1 q => ⟨x_f5_e q.1, q.2⟩) (by decide))
  · intro h1 f
    have hB1 := RB_fr hB f
    exact ux_imp (mX6_lessonOf ra rb hB1.1 hB1.2.1 hI.1 hI.2.1) (QB_R hB1)
  · exact fun h1 ta tb => ⟨_, _, _, _, _, _, _, RI_mono hI (by omega) hP, ta, tb⟩
theorem op_absent {l : Launch} {G : ux_G} {h : ux_H} {P : Nat} {a b : Int} (hR : RLw P h) (hP : P + 13000 ≤ 10000000) (ra : -2147483648 ≤ a ∧ a ≤ 2147483647) (rb : -2147483648 ≤ b ∧ b ≤ 2147483647) : OP P (fun Q => ux_M l G yL_absent iL_absent 5 3 [.ref 176, .int (iI a), .int (iI b), .ref 202] h Q (fun _ _ => False)) (fun h1 Q => ux_M l G yX6_absent iX6_absent 4 0 [.ref 192, .int (iI a), .int (iI b)] h1 Q (fun _ _ => False)) h := by
  obtain ⟨A, Hs, sv, S, L, e9, r9, hI, hA, hB⟩ := hR
  refine ⟨(k_absent A a b), (iI (aF A 5 a.toNat) >>> ((iI b * 6) &&& 31) &&& 63), RA A Hs sv S L e9 r9, RB A Hs sv S L e9 r9, (by unfold k_absent; (repeat' split) <;> omega), ?_, ?_, ?_, fun h1 h2 t f => RA_fr t f⟩
  · exact ux_imp (mL_absent (mX5_absent hA.1 hI.1 hI.2.1 ra rb) (fun v h1 q => ⟨_, q.1⟩) (fun E h1 q => xc_o1 q.2)) (QA_r hA (fun v h1 q => ⟨q.1, q.2.2, x_f5_e q.2.1⟩) (fun E h1 q => ⟨x_f5_e q.1, q.2⟩) (by decide))
  · intro h1 f
    have hB1 := RB_fr hB f
    exact ux_imp (mX6_absent ra rb hB1.1 hB1.2.1 hI.1 hI.2.1) (QB_R hB1)
  · exact fun h1 ta tb => ⟨_, _, _, _, _, _, _, RI_mono hI (by omega) hP, ta, tb⟩
theorem op_free {l : Launch} {G : ux_G} {h : ux_H} {P : Nat} {a b : Int} (hR : RLw P h) (hP : P + 13000 ≤ 10000000) (ra : -2147483648 ≤ a ∧ a ≤ 2147483647) (rb : -2147483648 ≤ b ∧ b ≤ 2147483647) : OP P (fun Q => ux_M l G yL_free iL_free 7 3 [.ref 176, .int (iI a), .int (iI b), .ref 202] h Q (fun _ _ => False)) (fun h1 Q => ux_M l G yX6_free iX6_free 7 0 [.ref 192, .int (iI a), .int (iI b)] h1 Q (fun _ _ => False)) h := by
  obtain ⟨A, Hs, sv, S, L, e9, r9, hI, hA, hB⟩ := hR
  refine ⟨(k_free A a b), (s_mask (fun p => s_free A a.toNat ((6 * b.toNat + p : Nat) : Int)) 6), RA A Hs sv S L e9 r9, RB A Hs sv S L e9 r9, (by unfold k_free; (repeat' split) <;> omega), ?_, ?_, ?_, fun h1 h2 t f => RA_fr t f⟩
  · exact ux_imp (mL_free (mX5_free hA.1 hI.1 hI.2.1 ra rb) (fun v h1 q => ⟨_, q.1⟩) (fun E h1 q => xc_o1 q.2)) (QA_r hA (fun v h1 q => ⟨q.1, q.2.2, x_f5_e q.2.1⟩) (fun E h1 q => ⟨x_f5_e q.1, q.2⟩) (by decide))
  · intro h1 f
    have hB1 := RB_fr hB f
    exact ux_imp (mX6_free ra rb hB1.1 hB1.2.1 hI.1 hI.2.1) (QB_R hB1)
  · exact fun h1 ta tb => ⟨_, _, _, _, _, _, _, RI_mono hI (by omega) hP, ta, tb⟩
theorem op_freeRooms {l : Launch} {G : ux_G} {h : ux_H} {P : Nat} {a : Int} (hR : RLw P h) (hP : P + 13000 ≤ 10000000) (ra : -2147483648 ≤ a ∧ a ≤ 2147483647) : OP P (fun Q => ux_M l G yL_freeRooms iL_freeRooms 5 2 [.ref 176, .int (iI a), .ref 202] h Q (fun _ _ => False)) (fun h1 Q => ux_M l G yX6_freeRooms iX6_freeRooms 6 0 [.ref 192, .int (iI a)] h1 Q (fun _ _ => False)) h := by
  obtain ⟨A, Hs, sv, S, L, e9, r9, hI, hA, hB⟩ := hR
  refine ⟨(k_freeRooms a), (s_mask (fun c => decide (s_find A 12 a c = -1)) 6), RA A Hs sv S L e9 r9, RB A Hs sv S L e9 r9, (by unfold k_freeRooms; (repeat' split) <;> omega), ?_, ?_, ?_, fun h1 h2 t f => RA_fr t f⟩
  · exact ux_imp (mL_freeRooms (mX5_freeRooms hA.1 hI.1 hI.2.1 ra) (fun v h1 q => ⟨_, q.1⟩) (fun E h1 q => xc_o1 q.2)) (QA_r hA (fun v h1 q => ⟨q.1, q.2.2, x_f5_e q.2.1⟩) (fun E h1 q => ⟨x_f5_e q.1, q.2⟩) (by decide))
  · intro h1 f
    have hB1 := RB_fr hB f
    exact ux_imp (mX6_freeRooms ra hB1.1 hB1.2.1 hI.1 hI.2.1) (QB_R hB1)
  · exact fun h1 ta tb => ⟨_, _, _, _, _, _, _, RI_mono hI (by omega) hP, ta, tb⟩
theorem op_openOn {l : Launch} {G : ux_G} {h : ux_H} {P : Nat} {a : Int} (hR : RLw P h) (hP : P + 13000 ≤ 10000000) (ra : -2147483648 ≤ a ∧ a ≤ 2147483647) : OP P (fun Q => ux_M l G yL_openOn iL_openOn 6 2 [.ref 176, .int (iI a), .ref 202] h Q (fun _ _ => False)) (fun h1 Q => ux_M l G yX6_openOn iX6_openOn 6 0 [.ref 192, .int (iI a)] h1 Q (fun _ _ => False)) h := by
  obtain ⟨A, Hs, sv, S, L, e9, r9, hI, hA, hB⟩ := hR
  refine ⟨(k_openOn a), (nI (s_cnt (fun j => decide (aF A 8 j / 6 = (a.toNat : Int)) && decide (s_st A j = 3)) A.2.1)), RA A Hs sv S L e9 r9, RB A Hs sv S L e9 r9, (by unfold k_openOn; (repeat' split) <;> omega), ?_, ?_, ?_, fun h1 h2 t f => RA_fr t f⟩
  · exact ux_imp (mL_openOn (mX5_openOn hA.1 hI.1 hI.2.1 ra) (fun v h1 q => ⟨_, q.1⟩) (fun E h1 q => xc_o1 q.2)) (QA_r hA (fun v h1 q => ⟨q.1, q.2.2, x_f5_e q.2.1⟩) (fun E h1 q => ⟨x_f5_e q.1, q.2⟩) (by decide))
  · intro h1 f
    have hB1 := RB_fr hB f
    exact ux_imp (mX6_openOn ra hB1.1 hB1.2.1 hI.1 hI.2.1) (QB_R hB1)
  · exact fun h1 ta tb => ⟨_, _, _, _, _, _, _, RI_mono hI (by omega) hP, ta, tb⟩
theorem op_open {l : Launch} {G : ux_G} {h : ux_H} {P : Nat} {a b : Int} (hR : RLw P h) (hP : P + 13000 ≤ 10000000) (ra : -2147483648 ≤ a ∧ a ≤ 2147483647) (rb : -2147483648 ≤ b ∧ b ≤ 2147483647) : OP P (fun Q => ux_M l G yL_open iL_open 7 3 [.ref 176, .int (iI a), .int (iI b), .ref 202] h Q (fun _ _ => False)) (fun h1 Q => ux_M l G yX6_open iX6_open 6 0 [.ref 192, .int (iI a), .int (iI b)] h1 Q (fun _ _ => False)) h := by
  obtain ⟨A, Hs, sv, S, L, e9, r9, hI, hA, hB⟩ := hR
  refine ⟨(k_open A a b), (iI (s_opat (s_opl A a.toNat 6) b)), RA A Hs sv S L e9 r9, RB A Hs sv S L e9 r9, (by unfold k_open; (repeat' split) <;> omega), ?_, ?_, ?_, fun h1 h2 t f => RA_fr t f⟩
  · exact ux_imp (mL_open (mX5_open hA.1 hI.1 hI.2.1 ra rb) (fun v h1 q => ⟨_, q.1⟩) (fun E h1 q => xc_o2 q.2)) (QA_r hA (fun v h1 q => ⟨q.1, q.2.2, x_f5_e q.2.1⟩) (fun E h1 q => ⟨x_f5_e q.1, q.2⟩) (by decide))
  · intro h1 f
    have hB1 := RB_fr hB f
    exact ux_imp (mX6_open ra rb hB1.1 hB1.2.1 hI.1 hI.2.1) (QB_R hB1)
  · exact fun h1 ta tb => ⟨_, _, _, _, _, _, _, RI_mono hI (by omega) hP, ta, tb⟩
theorem op_why {l : Launch} {G : ux_G} {h : ux_H} {P : Nat} {a b : Int} (hR : RLw P h) (hP : P + 13000 ≤ 10000000) (ra : -2147483648 ≤ a ∧ a ≤ 2147483647) (rb : -2147483648 ≤ b ∧ b ≤ 2147483647) : OP P (fun Q => ux_M l G yL_why iL_why 7 4 [.ref 176, .int (iI a), .int (iI b), .ref 202] h Q (fun _ _ => False)) (fun h1 Q => ux_M l G yX6_why iX6_why 6 0 [.ref 192, .int (iI a), .int (iI b)] h1 Q (fun _ _ => False)) h := by
  obtain ⟨A, Hs, sv, S, L, e9, r9, hI, hA, hB⟩ := hR
  refine ⟨(k_why A a b), (iI (s_bar A a.toNat b.toNat)), RA A Hs sv S L e9 r9, RB A Hs sv S L e9 r9, (by unfold k_why; (repeat' split) <;> omega), ?_, ?_, ?_, fun h1 h2 t f => RA_fr t f⟩
  · exact ux_imp (mL_why (mX5_why hA.1 hI.1 hI.2.1 ra rb) (fun v h1 q => ⟨_, q.1⟩) (fun E h1 q => xc_o2 q.2)) (QA_r hA (fun v h1 q => ⟨q.1, q.2.2, x_f5_e q.2.1⟩) (fun E h1 q => ⟨x_f5_e q.1, q.2⟩) (by decide))
  · intro h1 f
    have hB1 := RB_fr hB f
    exact ux_imp (mX6_why ra rb hB1.1 hB1.2.1 hI.1 hI.2.1) (QB_R hB1)
  · exact fun h1 ta tb => ⟨_, _, _, _, _, _, _, RI_mono hI (by omega) hP, ta, tb⟩
theorem op_points {l : Launch} {G : ux_G} {h : ux_H} {P : Nat} {a b : Int} (hR : RLw P h) (hP : P + 13000 ≤ 10000000) (ra : -2147483648 ≤ a ∧ a ≤ 2147483647) (rb : -2147483648 ≤ b ∧ b ≤ 2147483647) : OP P (fun Q => ux_M l G yL_points iL_points 6 3 [.ref 176, .int (iI a), .int (iI b), .ref 202] h Q (fun _ _ => False)) (fun h1 Q => ux_M l G yX6_points iX6_points 5 0 [.ref 192, .int (iI a), .int (iI b)] h1 Q (fun _ _ => False)) h := by
  obtain ⟨A, Hs, sv, S, L, e9, r9, hI, hA, hB⟩ := hR
  refine ⟨(k_points A a b), (iI (s_worth A a.toNat b.toNat)), RA A Hs sv S L e9 r9, RB A Hs sv S L e9 r9, (by unfold k_points; (repeat' split) <;> omega), ?_, ?_, ?_, fun h1 h2 t f => RA_fr t f⟩
  · exact ux_imp (mL_points (mX5_points hA.1 hI.1 hI.2.1 ra rb) (fun v h1 q => ⟨_, q.1⟩) (fun E h1 q => xc_o1 q.2)) (QA_r hA (fun v h1 q => ⟨q.1, q.2.2, x_f5_e q.2.1⟩) (fun E h1 q => ⟨x_f5_e q.1, q.2⟩) (by decide))
  · intro h1 f
    have hB1 := RB_fr hB f
    exact ux_imp (mX6_points ra rb hB1.1 hB1.2.1 hI.1 hI.2.1) (QB_R hB1)
  · exact fun h1 ta tb => ⟨_, _, _, _, _, _, _, RI_mono hI (by omega) hP, ta, tb⟩
theorem op_suggestion {l : Launch} {G : ux_G} {h : ux_H} {P : Nat} {a : Int} (hR : RLw P h) (hP : P + 13000 ≤ 10000000) (ra : -2147483648 ≤ a ∧ a ≤ 2147483647) : OP P (fun Q => ux_M l G yL_suggestion iL_suggestion 9 4 [.ref 176, .int (iI a), .ref 202] h Q (fun _ _ => False)) (fun h1 Q => ux_M l G yX6_suggestion iX6_suggestion 7 0 [.ref 192, .int (iI a)] h1 Q (fun _ _ => False)) h := by
  obtain ⟨A, Hs, sv, S, L, e9, r9, hI, hA, hB⟩ := hR
  refine ⟨(k_suggestion A a), (iI (s_best A a.toNat A.1)), RA A Hs sv S L e9 r9, RB A Hs sv S L e9 r9, (by unfold k_suggestion; (repeat' split) <;> omega), ?_, ?_, ?_, fun h1 h2 t f => RA_fr t f⟩
  · exact ux_imp (mL_suggestion (mX5_suggestion hA.1 hI.1 hI.2.1 ra) (fun v h1 q => ⟨_, q.1⟩) (fun E h1 q => xc_o3 q.2)) (QA_r hA (fun v h1 q => ⟨q.1, q.2.2, x_f5_e q.2.1⟩) (fun E h1 q => ⟨x_f5_e q.1, q.2⟩) (by decide))
  · intro h1 f
    have hB1 := RB_fr hB f
    exact ux_imp (mX6_suggestion ra hB1.1 hB1.2.1 hI.1 hI.2.1) (QB_R hB1)
  · exact fun h1 ta tb => ⟨_, _, _, _, _, _, _, RI_mono hI (by omega) hP, ta, tb⟩
theorem op_host {l : Launch} {G : ux_G} {h : ux_H} {P : Nat} {a : Int} {z : Bool} (hR : RLw P h) (hP : P + 13000 ≤ 10000000) (ra : -2147483648 ≤ a ∧ a ≤ 2147483647) : OP P (fun Q => ux_M l G yL_host iL_host 8 3 [.ref 176, .int (iI a), .int (if z then 1 else 0), .ref 202] h Q (fun _ _ => False)) (fun h1 Q => ux_M l G yX6_host iX6_host 6 0 [.ref 192, .int (iI a), .int (if z then 1 else 0)] h1 Q (fun _ _ => False)) h := by
  obtain ⟨A, Hs, sv, S, L, e9, r9, hI, hA, hB⟩ := hR
  refine ⟨(k_host A a), (iI (aF A (if z then 15 else 14) a.toNat)), RA A Hs sv S L e9 r9, RB A Hs sv S L e9 r9, (by unfold k_host; (repeat' split) <;> omega), ?_, ?_, ?_, fun h1 h2 t f => RA_fr t f⟩
  · exact ux_imp (mL_host (mX5_host hA.1 hI.1 hI.2.1 ra) (fun v h1 q => ⟨_, q.1⟩) (fun E h1 q => xc_o2 q.2)) (QA_r hA (fun v h1 q => ⟨q.1, q.2.2, x_f5_e q.2.1⟩) (fun E h1 q => ⟨x_f5_e q.1, q.2⟩) (by decide))
  · intro h1 f
    have hB1 := RB_fr hB f
    exact ux_imp (mX6_host ra hB1.1 hB1.2.1 hI.1 hI.2.1) (QB_R hB1)
  · exact fun h1 ta tb => ⟨_, _, _, _, _, _, _, RI_mono hI (by omega) hP, ta, tb⟩
theorem op_extreme {l : Launch} {G : ux_G} {h : ux_H} {P : Nat} {z : Bool} (hR : RLw P h) (hP : P + 13000 ≤ 10000000) : OP P (fun Q => ux_M l G yL_extreme iL_extreme 6 2 [.ref 176, .int (if z then 1 else 0), .ref 202] h Q (fun _ _ => False)) (fun h1 Q => ux_M l G yX6_extreme iX6_extreme 7 0 [.ref 192, .int (if z then 1 else 0)] h1 Q (fun _ _ => False)) h := by
  obtain ⟨A, Hs, sv, S, L, e9, r9, hI, hA, hB⟩ := hR
  refine ⟨(k_spread A), (nI (s_ext A z A.1)), RA A Hs sv S L e9 r9, RB A Hs sv S L e9 r9, (by unfold k_spread; (repeat' split) <;> omega), ?_, ?_, ?_, fun h1 h2 t f => RA_fr t f⟩
  · exact ux_imp (mL_extreme (mX5_extreme hA.1 hI.1 hI.2.1 ) (fun v h1 q => ⟨_, q.1⟩) (fun E h1 q => xc_o1 q.2)) (QA_r hA (fun v h1 q => ⟨q.1, q.2.2, x_f5_e q.2.1⟩) (fun E h1 q => ⟨x_f5_e q.1, q.2⟩) (by decide))
  · intro h1 f
    have hB1 := RB_fr hB f
    exact ux_imp (mX6_extreme  hB1.1 hB1.2.1 hI.1 hI.2.1) (QB_R hB1)
  · exact fun h1 ta tb => ⟨_, _, _, _, _, _, _, RI_mono hI (by omega) hP, ta, tb⟩
theorem op_lost {l : Launch} {G : ux_G} {h : ux_H} {P : Nat} {a : Int} (hR : RLw P h) (hP : P + 13000 ≤ 10000000) (ra : -2147483648 ≤ a ∧ a ≤ 2147483647) : OP P (fun Q => ux_M l G yL_lost iL_lost 6 2 [.ref 176, .int (iI a), .ref 202] h Q (fun _ _ => False)) (fun h1 Q => ux_M l G yX6_lost iX6_lost 7 0 [.ref 192, .int (iI a)] h1 Q (fun _ _ => False)) h := by
  obtain ⟨A, Hs, sv, S, L, e9, r9, hI, hA, hB⟩ := hR
  refine ⟨(k_lost a), (nI (s_cnt (fun j => decide (aF A 9 j = (a.toNat : Int)) && (decide (s_st A j = 3) || decide (s_st A j = 2))) A.2.1)), RA A Hs sv S L e9 r9, RB A Hs sv S L e9 r9, (by unfold k_lost; (repeat' split) <;> omega), ?_, ?_, ?_, fun h1 h2 t f => RA_fr t f⟩
  · exact ux_imp (mL_lost (mX5_lost hA.1 hI.1 hI.2.1 ra) (fun v h1 q => ⟨_, q.1⟩) (fun E h1 q => xc_o1 q.2)) (QA_r hA (fun v h1 q => ⟨q.1, q.2.2, x_f5_e q.2.1⟩) (fun E h1 q => ⟨x_f5_e q.1, q.2⟩) (by decide))
  · intro h1 f
    have hB1 := RB_fr hB f
    exact ux_imp (mX6_lost ra hB1.1 hB1.2.1 hI.1 hI.2.1) (QB_R hB1)
  · exact fun h1 ta tb => ⟨_, _, _, _, _, _, _, RI_mono hI (by omega) hP, ta, tb⟩
theorem op_plannedSpread {l : Launch} {G : ux_G} {h : ux_H} {P : Nat} {a : Int} (hR : RLw P h) (hP : P + 13000 ≤ 10000000) (ra : -2147483648 ≤ a ∧ a ≤ 2147483647) : OP P (fun Q => ux_M l G yL_plannedSpread iL_plannedSpread 15 4 [.ref 176, .int (iI a), .ref 202] h Q (fun _ _ => False)) (fun h1 Q => ux_M l G yX6_plannedSpread iX6_plannedSpread 15 0 [.ref 192, .int (iI a)] h1 Q (fun _ _ => False)) h := by
  obtain ⟨A, Hs, sv, S, L, e9, r9, hI, hA, hB⟩ := hR
  refine ⟨(k_plan A a), (iI (pl_of A a.toNat).2.1), RA A Hs sv S L e9 r9, RB A Hs sv S L e9 r9, (by unfold k_plan k_planDay; (repeat' split) <;> omega), ?_, ?_, ?_, fun h1 h2 t f => RA_fr t f⟩
  · exact ux_imp (mL_plannedSpread (mX5_plannedSpread hA.1 hI.1 hI.2.1 (by omega) ra) (fun v h1 q => ⟨_, q.1⟩) (fun E h1 q => xc_o3 q.2)) (QA_r hA (fun v h1 q => ⟨q.1, q.2.1, x_f5_K q.2.2⟩) (fun E h1 q => ⟨x_f5_K q.1, q.2⟩) (by decide))
  · intro h1 f
    have hB1 := RB_fr hB f
    exact ux_imp (mX6_plannedSpread hB1.1 hB1.2.1 hI.1 hI.2.1 (by omega) ra) (QB_R hB1)
  · exact fun h1 ta tb => ⟨_, _, _, _, _, _, _, RI_mono hI (by omega) hP, ta, tb⟩
theorem op_planned {l : Launch} {G : ux_G} {h : ux_H} {P : Nat} {a b : Int} (hR : RLw P h) (hP : P + 13000 ≤ 10000000) (ra : -2147483648 ≤ a ∧ a ≤ 2147483647) (rb : -2147483648 ≤ b ∧ b ≤ 2147483647) : OP P (fun Q => ux_M l G yL_planned iL_planned 15 4 [.ref 176, .int (iI a), .int (iI b), .ref 202] h Q (fun _ _ => False)) (fun h1 Q => ux_M l G yX6_planned iX6_planned 15 0 [.ref 192, .int (iI a), .int (iI b)] h1 Q (fun _ _ => False)) h := by
  obtain ⟨A, Hs, sv, S, L, e9, r9, hI, hA, hB⟩ := hR
  refine ⟨(k_planned A a b), (nI ((pl_of A a.toNat).2.2[b.toNat]?.getD 0)), RA A Hs sv S L e9 r9, RB A Hs sv S L e9 r9, (by unfold k_planned k_planDay; (repeat' split) <;> omega), ?_, ?_, ?_, fun h1 h2 t f => RA_fr t f⟩
  · exact ux_imp (mL_planned (mX5_planned hA.1 hI.1 hI.2.1 (by omega) ra rb) (fun v h1 q => ⟨_, q.1⟩) (fun E h1 q => xc_o3 q.2)) (QA_r hA (fun v h1 q => ⟨q.1, q.2.1, x_f5_K q.2.2⟩) (fun E h1 q => ⟨x_f5_K q.1, q.2⟩) (by decide))
  · intro h1 f
    have hB1 := RB_fr hB f
    exact ux_imp (mX6_planned hB1.1 hB1.2.1 hI.1 hI.2.1 (by omega) ra rb) (QB_R hB1)
  · exact fun h1 ta tb => ⟨_, _, _, _, _, _, _, RI_mono hI (by omega) hP, ta, tb⟩
theorem op_plans {l : Launch} {G : ux_G} {h : ux_H} {P : Nat} {a : Int} (hR : RLw P h) (hP : P + 13000 ≤ 10000000) (ra : -2147483648 ≤ a ∧ a ≤ 2147483647) : OP P (fun Q => ux_M l G yL_plans iL_plans 15 3 [.ref 176, .int (iI a), .ref 202] h Q (fun _ _ => False)) (fun h1 Q => ux_M l G yX6_plans_ iX6_plans_ 15 0 [.ref 192, .int (iI a)] h1 Q (fun _ _ => False)) h := by
  obtain ⟨A, Hs, sv, S, L, e9, r9, hI, hA, hB⟩ := hR
  refine ⟨(k_planDay A a), (nI (pl_of A a.toNat).1), RA A Hs sv S L e9 r9, RB A Hs sv S L e9 r9, (by unfold k_planDay; (repeat' split) <;> omega), ?_, ?_, ?_, fun h1 h2 t f => RA_fr t f⟩
  · exact ux_imp (mL_plans (mX5_plans hA.1 hI.1 hI.2.1 (by omega) ra) (fun v h1 q => ⟨_, q.1⟩) (fun E h1 q => xc_o2 q.2)) (QA_r hA (fun v h1 q => ⟨q.1, q.2.1, x_f5_K q.2.2⟩) (fun E h1 q => ⟨x_f5_K q.1, q.2⟩) (by decide))
  · intro h1 f
    have hB1 := RB_fr hB f
    exact ux_imp (mX6_plans_ hB1.1 hB1.2.1 hI.1 hI.2.1 (by omega) ra) (QB_R hB1)
  · exact fun h1 ta tb => ⟨_, _, _, _, _, _, _, RI_mono hI (by omega) hP, ta, tb⟩
theorem op_describe {l : Launch} {G : ux_G} {h : ux_H} {P : Nat} {a b : Int} (hR : RLw P h) (hP : P + 13000 ≤ 10000000) (ra : -2147483648 ≤ a ∧ a ≤ 2147483647) (rb : -2147483648 ≤ b ∧ b ≤ 2147483647) : OP P (fun Q => ux_M l G yL_describe iL_describe 6 2 [.ref 176, .int (iI a), .int (iI b), .ref 202] h Q (fun _ _ => False)) (fun h1 Q => ux_M l G yX6_describe iX6_describe 4 0 [.ref 192, .int (iI a), .int (iI b)] h1 Q (fun _ _ => False)) h := by
  obtain ⟨A, Hs, sv, S, L, e9, r9, hI, hA, hB⟩ := hR
  refine ⟨(k_describe A a b), (iI (r_describe A a b)), RA A Hs sv S L e9 r9, RB A Hs sv S L e9 r9, (by unfold k_describe; (repeat' split) <;> omega), ?_, ?_, ?_, fun h1 h2 t f => RA_fr t f⟩
  · exact ux_imp (mL_describe (mX5_describe hA.1 hI.1 ra rb) (fun v h1 q => ⟨_, q.1⟩) (fun E h1 q => xc_o2 q.2)) (QA_r hA (fun v h1 q => ⟨q.1, q.2.1, x_f5_L q.2.2⟩) (fun E h1 q => ⟨x_f5_L q.1, q.2⟩) (by decide))
  · intro h1 f
    have hB1 := RB_fr hB f
    exact ux_imp (mX6_describe ra rb hB1.1 hB1.2.1 hI.1 hI.2.1) (QB_R hB1)
  · exact fun h1 ta tb => ⟨_, _, _, _, _, _, _, RI_mono hI (by omega) hP, ta, tb⟩
theorem op_spread {l : Launch} {G : ux_G} {h : ux_H} {P : Nat} (hR : RLw P h) (hP : P + 13000 ≤ 10000000) : OP P (fun Q => ux_M l G yL_spread iL_spread 7 2 [.ref 176, .ref 202] h Q (fun _ _ => False)) (fun h1 Q => ux_M l G yX6_spread iX6_spread 6 0 [.ref 192] h1 Q (fun _ _ => False)) h := by
  obtain ⟨A, Hs, sv, S, L, e9, r9, hI, hA, hB⟩ := hR
  refine ⟨k_spread A, iI (s_shr A (s_ext A true A.1) - s_shr A (s_ext A false A.1)), RA A Hs sv S L e9 r9, RB A Hs sv S L e9 r9, (by unfold k_spread; split <;> omega), ?_, ?_, ?_, fun h1 h2 t f => RA_fr t f⟩
  · exact ux_imp (mL_spread (mX5_spread hA.1 hI.1 hI.2.1) (fun v h1 q => ⟨_, q.1⟩) (fun E h1 q => xc_o1 q.2)) (QA_r hA (fun v h1 q => ⟨q.1, q.2.2, x_f5_e q.2.1⟩) (fun E h1 q => ⟨x_f5_e q.1, q.2⟩) (by decide))
  · intro h1 f
    have hB1 := RB_fr hB f
    refine ux_imp (mX6_spread hB1.1 hB1.2.1 hI.1 hI.2.1) (fun v h' q => QB_cv rfl (fun k0 => ?_) _ _ (QB_R hB1 _ _ q))
    rw [spread_eq (by unfold k_spread at k0; split at k0 <;> omega)]
  · exact fun h1 ta tb => ⟨_, _, _, _, _, _, _, RI_mono hI (by omega) hP, ta, tb⟩
theorem op_refusal {l : Launch} {G : ux_G} {h : ux_H} {P : Nat} (hR : RLw P h) (hP : P + 13000 ≤ 10000000) : OP P (fun Q => ux_M l G yL_refusal iL_refusal 4 1 [.ref 176, .ref 202] h Q (fun _ _ => False)) (fun h1 Q => ux_M l G yX6_refusal iX6_refusal 2 0 [.ref 192] h1 Q (fun _ _ => False)) h := by
  obtain ⟨A, Hs, sv, S, L, e9, r9, hI, hA, hB⟩ := hR
  have rr : -1 ≤ r9 ∧ r9 ≤ 100 := by have := hI.2.2.2.2.2; omega
  refine ⟨k_refusal r9, iI r9, RA A Hs sv S L e9 r9, RB A Hs sv S L e9 r9, (by unfold k_refusal; split <;> omega), ?_, ?_, ?_, fun h1 h2 t f => RA_fr t f⟩
  · exact ux_imp (mL_refusal (mX5_refusal hA.2.2.2.2.2.2 rr) (fun v h1 q => ⟨_, q.1⟩) (fun E h1 q => xc_o1 q.2)) (QA_r hA (fun v h1 q => ⟨q.1, q.2.2, x_f5_e q.2.1⟩) (fun E h1 q => ⟨x_f5_e q.1, q.2⟩) (by decide))
  · intro h1 f
    have hB1 := RB_fr hB f
    have r6 := hI.2.2.2.2.2
    refine ux_imp (mX6_refusal hB1.2.2.2.2.2 (by split <;> omega) hB1.1 hB1.2.1 hI.1 hI.2.1) (fun v h' q => QB_cv ?_ (fun k0 => ?_) _ _ (QB_R hB1 _ _ q))
    · unfold k_refusal
      by_cases q : r9 = -1
      · rw [if_pos q, if_pos q, if_pos rfl]
      · rw [if_neg q, if_neg q, if_neg (by omega)]
    · unfold k_refusal at k0
      split at k0
      · omega
      · next q => rw [if_neg q]
  · exact fun h1 ta tb => ⟨_, _, _, _, _, _, _, RI_mono hI (by omega) hP, ta, tb⟩
theorem op_errorPosition {l : Launch} {G : ux_G} {h : ux_H} {P : Nat} (hR : RLw P h) (hP : P + 13000 ≤ 10000000) : OP P (fun Q => ux_M l G yL_errorPosition iL_errorPosition 4 1 [.ref 176, .ref 202] h Q (fun _ _ => False)) (fun h1 Q => ux_M l G yX6_errorPosition iX6_errorPosition 2 0 [.ref 192] h1 Q (fun _ _ => False)) h := by
  obtain ⟨A, Hs, sv, S, L, e9, r9, hI, hA, hB⟩ := hR
  have rr := hI.2.2.2.2.1
  refine ⟨k_errorPosition e9, iI e9, RA A Hs sv S L e9 r9, RB A Hs sv S L e9 r9, (by unfold k_errorPosition; split <;> omega), ?_, ?_, ?_, fun h1 h2 t f => RA_fr t f⟩
  · exact ux_imp (mL_errorPosition (mX5_errorPosition hA.2.2.2.2.2.1 rr) (fun v h1 q => ⟨_, q.1⟩) (fun E h1 q => xc_o1 q.2)) (QA_r hA (fun v h1 q => ⟨q.1, q.2.2, x_f5_e q.2.1⟩) (fun E h1 q => ⟨x_f5_e q.1, q.2⟩) (by decide))
  · intro h1 f
    have hB1 := RB_fr hB f
    exact ux_imp (mX6_errorPosition hB1.2.2.2.2.1 rr hB1.1 hB1.2.1 hI.1 hI.2.1) (QB_R hB1)
  · exact fun h1 ta tb => ⟨_, _, _, _, _, _, _, RI_mono hI (by omega) hP, ta, tb⟩
theorem op_cover {l : Launch} {G : ux_G} {h : ux_H} {P : Nat} {a b : Int} (hR : RLw P h) (hP : P + 13000 ≤ 10000000) (ra : -2147483648 ≤ a ∧ a ≤ 2147483647) (rb : -2147483648 ≤ b ∧ b ≤ 2147483647) : OP P (fun Q => ux_M l G yL_cover iL_cover 8 4 [.ref 176, .int (iI a), .int (iI b), .ref 202] h Q (fun _ _ => False)) (fun h1 Q => ux_M l G yX6_cover iX6_cover 8 0 [.ref 192, .int (iI a), .int (iI b)] h1 Q (fun _ _ => False)) h := by
  obtain ⟨A, Hs, sv, S, L, e9, r9, hI, hA, hB⟩ := hR
  obtain ⟨K, hK⟩ : ∃ K, K = k_cover A a b := ⟨_, rfl⟩
  have b5 := s_bar_r A a.toNat b.toNat
  have b3 : K = 3 → s_bar A a.toNat b.toNat ≠ 0 := by
    intro q
    rw [hK] at q
    unfold k_cover at q
    split at q
    · omega
    split at q
    · omega
    split at q
    · next z => exact z
    · omega
  refine ⟨K, iI (s_worth A a.toNat b.toNat), RA (if K = 0 then s_begin A a.toNat b.toNat else A) (if K = 0 then (A :: Hs).take 8 else Hs) sv S L e9 (if K = 3 then s_bar A a.toNat b.toNat else r9), RB (if K = 0 then s_begin A a.toNat b.toNat else A) (if K = 0 then (A :: Hs).take 8 else Hs) sv S L e9 (if K = 3 then s_bar A a.toNat b.toNat else r9), (by rw [hK]; unfold k_cover; (repeat' split) <;> omega), ?_, ?_, ?_, fun h1 h2 t f => RA_fr t f⟩
  · refine ux_imp (mL_cover (mX5_cover hA.1 hI.1 hI.2.1 hA.2.1 (by omega) ra rb) (fun v h1 q => ⟨_, q.1⟩) (fun E h1 q => xc_o3 q.1)) ?_
    rw [← hK]
    refine QA_of (fun v h1 q => ?_) (fun E h1 q => ?_) (fun h1 h2 t f => RA_fr t f) (by decide)
    · obtain ⟨q1, q2, q3, q4, q5⟩ := q
      refine ⟨q1, q2, ?_, fun c c1 c2 j => q5 c (by omega) (by omega) j⟩
      rw [if_pos q2, if_pos q2, if_neg (by omega)]
      exact RA_mk hA q3 q4 fun c j hc => q5 c (by omega) (by omega) j
    · obtain ⟨q1, q2⟩ := q
      have q3 := xc_pos q1
      rw [if_neg q3, if_neg q3, q2]
      by_cases q : K = 3
      · rw [if_pos q, if_pos q]
        refine ⟨q1, ?_, fun c c1 c2 j => by unfold xsi xsv; rw [if_neg (by omega)]⟩
        obtain ⟨a1, a2, a3, a4, a5, a6, a7⟩ := hA
        have e : ∀ k j, ¬ (k = 176 ∧ j = 8) → xsi h 176 8 (iI (s_bar A a.toNat b.toNat)) k j = h k j := fun k j z => by unfold xsi xsv; rw [if_neg z]
        exact ⟨rC_ne a1 fun k _ z j => e k j (by omega), rH_ne a2 fun k _ z z2 j => e k j (by omega), (xgi_eq (e 176 7 (by decide))).trans a3, fun z => rC_ne (a4 z) fun k _ z j => e k j (by omega), rI_of a5 (fun j => e 188 j (by omega)) (fun j => e 189 j (by omega)), (xgi_eq (e 176 9 (by decide))).trans a6, xgi_si _ _ _ _⟩
      · rw [if_neg q, if_neg q]
        exact ⟨q1, hA, fun _ _ _ _ => rfl⟩
  · intro h1 f
    have hB1 := RB_fr hB f
    refine ux_imp (mX6_cover hB1.1 hB1.2.1 hI.1 hI.2.1 (by omega) ra rb) ?_
    rw [← hK]
    rintro v h' ⟨e1, e2, e3, e4, e5, e6, e7⟩
    obtain ⟨a1, a2, a3, a4, a5, a6⟩ := hB1
    refine ⟨⟨_, e1, fun q => if_pos q⟩, e2, ⟨e3, e4, rS_of a3 (e6 3 (by decide)) (fun j => e5 194 (by decide) j), rIm_of a4 (e6 8 (by decide)) (fun j => e5 197 (by decide) j), (xgi_eq (e6 9 (by decide))).trans a5, ?_⟩, fun c hc j => e5 c (by omega) j⟩
    rw [e7]
    by_cases q : K = 3
    · have := b3 q
      rw [if_pos q, if_pos q, if_neg (by omega)]
    · rw [if_neg q, if_neg q]
      exact a6
  · refine fun h1 ta tb => ⟨_, _, _, _, _, _, _, ?_, ta, tb⟩
    have z := RI_ch (K := K) (A2 := s_begin A a.toNat b.toNat) hI hP (fun k0 => by
      rw [hK] at k0
      unfold k_cover at k0
      split at k0
      · omega
      split at k0
      · omega
      split at k0
      · omega
      rename_i w1 w2 w3
      exact ⟨Inv_mono (s_begin_I (i := a.toNat) (t := b.toNat) hI.1 (by omega) (by omega)) (by omega) hP, s_begin_J hI.2.1 (by omega) (Decidable.not_not.mp w2) (Decidable.not_not.mp w3)⟩)
    obtain ⟨z1, z2, z3, z4, z5, z6⟩ := z
    refine ⟨z1, z2, z3, z4, z5, ?_⟩
    by_cases q : K = 3
    · have := b3 q
      rw [if_pos q]; omega
    · rw [if_neg q]; exact z6
theorem op_append {l : Launch} {G : ux_G} {h : ux_H} {P : Nat} {a : Int} (hR : RLw P h) (hP : P + 13000 ≤ 10000000) (ra : -2147483648 ≤ a ∧ a ≤ 2147483647) : OP P (fun Q => ux_M l G yL_append iL_append 4 2 [.ref 176, .int (iI a), .ref 202] h Q (fun _ _ => False)) (fun h1 Q => ux_M l G yX6_append iX6_append 2 0 [.ref 192, .int (iI a)] h1 Q (fun _ _ => False)) h := by
  obtain ⟨A, Hs, sv, S, L, e9, r9, hI, hA, hB⟩ := hR
  obtain ⟨K, hK⟩ : ∃ K, K = k_append L a := ⟨_, rfl⟩
  refine ⟨K, nI (L.length + 1), RA A Hs sv S (if K = 0 then L ++ [a.toNat] else L) e9 r9, RB A Hs sv S (if K = 0 then L ++ [a.toNat] else L) e9 r9, (by rw [hK]; unfold k_append; (repeat' split) <;> omega), ?_, ?_, ?_, fun h1 h2 t f => RA_fr t f⟩
  · refine ux_imp (mL_append (mX5_append hA.2.2.2.2.1 ra) (fun v h1 q => ⟨_, q.1⟩) (fun E h1 q => xc_o2 q.2)) ?_
    rw [← hK]
    refine QA_of (fun v h1 q => ?_) (fun E h1 q => ?_) (fun h1 h2 t f => RA_fr t f) (by decide)
    · obtain ⟨q1, q2, rfl⟩ := q
      have e : ∀ k j, k ≠ 188 → k ≠ 189 → xsi (xsi h 189 L.length (nI a.toNat)) 188 1 (nI (L.length + 1)) k j = h k j := fun k j z1 z2 => by unfold xsi xsv; rw [if_neg (by omega), if_neg (by omega)]
      refine ⟨q1, q2, ?_, fun c c1 c2 j => e c j (by omega) (by omega)⟩
      rw [if_pos q2]
      obtain ⟨a1, a2, a3, a4, a5, a6, a7⟩ := hA
      have w : (32 ≤ a.toNat ∧ a.toNat < 127) ∧ L.length < 70 := by
        rw [hK] at q2
        unfold k_append at q2
        split at q2
        · omega
        split at q2
        · omega
        omega
      exact ⟨rC_ne a1 fun k _ z j => e k j (by omega) (by omega), rH_ne a2 fun k _ z z2 j => e k j (by omega) (by omega), (xgi_eq (e 176 7 (by decide) (by decide))).trans a3, fun z => rC_ne (a4 z) fun k _ z j => e k j (by omega) (by omega), rI_add a5 w.1 w.2, (xgi_eq (e 176 9 (by decide) (by decide))).trans a6, (xgi_eq (e 176 8 (by decide) (by decide))).trans a7⟩
    · obtain ⟨rfl, q2⟩ := q
      rw [if_neg (xc_pos q2)]
      exact ⟨q2, hA, fun _ _ _ _ => rfl⟩
  · intro h1 f
    have hB1 := RB_fr hB f
    refine ux_imp (mX6_append hB1.2.2.2.1 ra) ?_
    rw [← hK]
    rintro v h' ⟨e1, e2, e3, e4⟩
    obtain ⟨a1, a2, a3, a4, a5, a6⟩ := hB1
    exact ⟨⟨_, e1, fun q => if_pos q⟩, e2, ⟨rM_fr a1 fun j => e4.1 193 (by decide) (by decide) j, rK_fr a2 (fun j => e4.1 196 (by decide) (by decide) j) (e4.2 6 (by decide) (by decide)), rS_of a3 (e4.2 3 (by decide) (by decide)) (fun j => e4.1 194 (by decide) (by decide) j), e3, (xgi_eq (e4.2 9 (by decide) (by decide))).trans a5, (xgi_eq (e4.2 10 (by decide) (by decide))).trans a6⟩, fun c hc j => e4.1 c (by omega) (by omega) j⟩
  · exact fun h1 ta tb => ⟨_, _, _, _, _, _, _, RI_mono hI (by omega) hP, ta, tb⟩
