/-! THE LAW: the changing calls, both sides. -/
theorem xc_o1 {K : Nat} {a E : String} (h : xc K [a] E) : E = a := by simpa using List.mem_of_getElem? h.2
theorem xc_o2 {K : Nat} {a b E : String} (h : xc K [a, b] E) : E = a ∨ E = b := by simpa using List.mem_of_getElem? h.2
theorem xc_o3 {K : Nat} {a b c E : String} (h : xc K [a, b, c] E) : E = a ∨ E = b ∨ E = c := by simpa using List.mem_of_getElem? h.2
theorem xc_o4 {K : Nat} {a b c d E : String} (h : xc K [a, b, c, d] E) : E = a ∨ E = b ∨ E = c ∨ E = d := by simpa using List.mem_of_getElem? h.2
theorem xc_pos {K : Nat} {L : List String} {E : String} (h : xc K L E) : ¬ K = 0 := by have := h.1; omega
theorem QA_c {Q : Option Value → ux_H → Prop} {X : String → ux_H → Prop} {Es : List String} {K : Nat} {R : Int32} {A A2 : Ab} {Hs : List Ab} {sv : Bool} {S : Ab} {L : List Nat} {e r : Int} {h : ux_H} (hA : RA A Hs sv S L e r h) (hq : ∀ v h1, Q v h1 → v = some (.int R) ∧ K = 0 ∧ rC 0 A2 h1 ∧ rH ((A :: Hs).take 8) h1 ∧ x_frDK h h1) (hx : ∀ E h1, X E h1 → x_frK h h1 ∧ xc K Es E) (hn : Es.Nodup) :
    ∀ v h', QW Q X Es v h' → QA K R (RA (if K = 0 then A2 else A) (if K = 0 then (A :: Hs).take 8 else Hs) sv S L e r) h v h' := by
  refine QA_of (fun v h1 q => ?_) (fun E h1 q => ?_) (fun h1 h2 t f => RA_fr t f) hn
  · obtain ⟨q1, q2, q3, q4, q5⟩ := hq v h1 q
    refine ⟨q1, q2, ?_, fun c c1 c2 j => q5 c (by omega) (by omega) j⟩
    rw [if_pos q2, if_pos q2]
    exact RA_mk hA q3 q4 fun c j hc => q5 c (by omega) (by omega) j
  · obtain ⟨q1, q2⟩ := hx E h1 q
    have q3 := xc_pos q2
    refine ⟨q2, ?_, fun c c1 c2 j => q1 c (by omega) j⟩
    rw [if_neg q3, if_neg q3]
    exact RA_mk hA (rC_frK hA.1 q1) (rH_frK hA.2.1 q1) fun c j hc => by
      rcases hc with hc | hc | hc | hc
      · exact q1 c (by omega) j
      · exact q1 c (by omega) j
      · exact q1 c (by omega) j
      · exact q1 c (by omega) j
theorem x_frK_self {h h1 : ux_H} (e : h1 = h) : x_frK h h1 := fun _ _ _ => by rw [e]
theorem x_frDK_D {h h1 : ux_H} (a : x_frD h h1) : x_frDK h h1 := fun k h16 hk j => a k h16 (by omega) j
theorem op_addTeacher {l : Launch} {G : ux_G} {h : ux_H} {P : Nat} {a b : Int} (hR : RLw P h) (hP : P + 13000 ≤ 10000000) (ra : -2147483648 ≤ a ∧ a ≤ 2147483647) (rb : -2147483648 ≤ b ∧ b ≤ 2147483647) : OP P (fun Q => ux_M l G yL_addTeacher iL_addTeacher 6 3 [.ref 176, .int (iI a), .int (iI b), .ref 202] h Q (fun _ _ => False)) (fun h1 Q => ux_M l G yX6_addTeacher iX6_addTeacher 6 0 [.ref 192, .int (iI a), .int (iI b)] h1 Q (fun _ _ => False)) h := by
  obtain ⟨A, Hs, sv, S, L, e9, r9, hI, hA, hB⟩ := hR
  refine ⟨(k_addTeacher A a b), (nI A.1), RA (if (k_addTeacher A a b) = 0 then (s_putT A a b) else A) (if (k_addTeacher A a b) = 0 then (A :: Hs).take 8 else Hs) sv S L e9 r9, RB (if (k_addTeacher A a b) = 0 then (s_putT A a b) else A) (if (k_addTeacher A a b) = 0 then (A :: Hs).take 8 else Hs) sv S L e9 r9, (by unfold k_addTeacher; (repeat' split) <;> omega), ?_, ?_, ?_, fun h1 h2 t f => RA_fr t f⟩
  · exact ux_imp (mL_addTeacher (mX5_addTeacher hA.1 hI.1 hI.2.1 hA.2.1 (by omega) ra rb) (fun v h1 q => ⟨_, q.1⟩) (fun E h1 q => xc_o2 q.2)) (QA_c hA (fun v h1 q => ⟨q.1, q.2.1, q.2.2.1, q.2.2.2.1, x_frDK_D q.2.2.2.2⟩) (fun E h1 q => ⟨x_frK_self q.1, q.2⟩) (by decide))
  · intro h1 f
    have hB1 := RB_fr hB f
    exact ux_imp (mX6_addTeacher ra rb hB1.1 hB1.2.1 hI.1 hI.2.1) (QB_6 hB1)
  · refine fun h1 ta tb => ⟨_, _, _, _, _, _, _, RI_ch hI hP (fun k0 => ?_), ta, tb⟩
    unfold k_addTeacher at k0
    split at k0
    · omega
    split at k0
    · omega
    obtain ⟨z1, z2⟩ := putT_ok hI.1 hI.2.1 (su := a) (w := b) (by omega) (by omega) (by omega)
    exact ⟨Inv_mono z1 (by omega) hP, z2⟩
theorem op_setLimit {l : Launch} {G : ux_G} {h : ux_H} {P : Nat} {a b : Int} (hR : RLw P h) (hP : P + 13000 ≤ 10000000) (ra : -2147483648 ≤ a ∧ a ≤ 2147483647) (rb : -2147483648 ≤ b ∧ b ≤ 2147483647) : OP P (fun Q => ux_M l G yL_setLimit iL_setLimit 6 3 [.ref 176, .int (iI a), .int (iI b), .ref 202] h Q (fun _ _ => False)) (fun h1 Q => ux_M l G yX6_setLimit iX6_setLimit 6 0 [.ref 192, .int (iI a), .int (iI b)] h1 Q (fun _ _ => False)) h := by
  obtain ⟨A, Hs, sv, S, L, e9, r9, hI, hA, hB⟩ := hR
  refine ⟨(k_setLimit A a b), (iI (aF A 3 a.toNat)), RA (if (k_setLimit A a b) = 0 then (aU A 3 a.toNat b) else A) (if (k_setLimit A a b) = 0 then (A :: Hs).take 8 else Hs) sv S L e9 r9, RB (if (k_setLimit A a b) = 0 then (aU A 3 a.toNat b) else A) (if (k_setLimit A a b) = 0 then (A :: Hs).take 8 else Hs) sv S L e9 r9, (by unfold k_setLimit; (repeat' split) <;> omega), ?_, ?_, ?_, fun h1 h2 t f => RA_fr t f⟩
  · exact ux_imp (mL_setLimit (mX5_setLimit hA.1 hI.1 hI.2.1 hA.2.1 (by omega) ra rb) (fun v h1 q => ⟨_, q.1⟩) (fun E h1 q => xc_o2 q.2)) (QA_c hA (fun v h1 q => ⟨q.1, q.2.1, q.2.2.1, q.2.2.2.1, x_frDK_D q.2.2.2.2⟩) (fun E h1 q => ⟨x_frK_self q.1, q.2⟩) (by decide))
  · intro h1 f
    have hB1 := RB_fr hB f
    exact ux_imp (mX6_setLimit hB1.1 hB1.2.1 hI.1 hI.2.1 ra rb) (QB_6 hB1)
  · refine fun h1 ta tb => ⟨_, _, _, _, _, _, _, RI_ch hI hP (fun k0 => ?_), ta, tb⟩
    unfold k_setLimit at k0
    split at k0
    · omega
    split at k0
    · omega
    obtain ⟨z1, z2⟩ := limit_ok hI.1 hI.2.1 (t := a.toNat) (b := b) (by omega)
    exact ⟨Inv_mono z1 (by omega) hP, z2⟩
theorem op_setSize {l : Launch} {G : ux_G} {h : ux_H} {P : Nat} {a b : Int} (hR : RLw P h) (hP : P + 13000 ≤ 10000000) (ra : -2147483648 ≤ a ∧ a ≤ 2147483647) (rb : -2147483648 ≤ b ∧ b ≤ 2147483647) : OP P (fun Q => ux_M l G yL_setSize iL_setSize 8 4 [.ref 176, .int (iI a), .int (iI b), .ref 202] h Q (fun _ _ => False)) (fun h1 Q => ux_M l G yX6_setSize iX6_setSize 8 0 [.ref 192, .int (iI a), .int (iI b)] h1 Q (fun _ _ => False)) h := by
  obtain ⟨A, Hs, sv, S, L, e9, r9, hI, hA, hB⟩ := hR
  refine ⟨(k_setSize A a b), (iI (aF A 6 a.toNat)), RA (if (k_setSize A a b) = 0 then (aU A 6 a.toNat b) else A) (if (k_setSize A a b) = 0 then (A :: Hs).take 8 else Hs) sv S L e9 r9, RB (if (k_setSize A a b) = 0 then (aU A 6 a.toNat b) else A) (if (k_setSize A a b) = 0 then (A :: Hs).take 8 else Hs) sv S L e9 r9, (by unfold k_setSize; (repeat' split) <;> omega), ?_, ?_, ?_, fun h1 h2 t f => RA_fr t f⟩
  · exact ux_imp (mL_setSize (mX5_setSize hA.1 hI.1 hI.2.1 hA.2.1 (by omega) ra rb) (fun v h1 q => ⟨_, q.1⟩) (fun E h1 q => xc_o3 q.2)) (QA_c hA (fun v h1 q => ⟨q.1, q.2.1, q.2.2.1, q.2.2.2.1, x_frDK_D q.2.2.2.2⟩) (fun E h1 q => ⟨x_frK_self q.1, q.2⟩) (by decide))
  · intro h1 f
    have hB1 := RB_fr hB f
    exact ux_imp (mX6_setSize hB1.1 hB1.2.1 hI.1 hI.2.1 ra rb) (QB_6 hB1)
  · refine fun h1 ta tb => ⟨_, _, _, _, _, _, _, RI_ch hI hP (fun k0 => ?_), ta, tb⟩
    unfold k_setSize at k0
    split at k0
    · omega
    split at k0
    · omega
    split at k0
    · omega
    rename_i w1 w2 w3
    obtain ⟨z1, z2⟩ := size_ok hI.1 hI.2.1 (c := a.toNat) (z := b) (by omega) (Decidable.not_not.mp w3)
    exact ⟨Inv_mono z1 (by omega) hP, z2⟩
theorem op_setCapacity {l : Launch} {G : ux_G} {h : ux_H} {P : Nat} {a b : Int} (hR : RLw P h) (hP : P + 13000 ≤ 10000000) (ra : -2147483648 ≤ a ∧ a ≤ 2147483647) (rb : -2147483648 ≤ b ∧ b ≤ 2147483647) : OP P (fun Q => ux_M l G yL_setCapacity iL_setCapacity 8 4 [.ref 176, .int (iI a), .int (iI b), .ref 202] h Q (fun _ _ => False)) (fun h1 Q => ux_M l G yX6_setCapacity iX6_setCapacity 8 0 [.ref 192, .int (iI a), .int (iI b)] h1 Q (fun _ _ => False)) h := by
  obtain ⟨A, Hs, sv, S, L, e9, r9, hI, hA, hB⟩ := hR
  refine ⟨(k_setCapacity A a b), (iI (aF A 7 a.toNat)), RA (if (k_setCapacity A a b) = 0 then (aU A 7 a.toNat b) else A) (if (k_setCapacity A a b) = 0 then (A :: Hs).take 8 else Hs) sv S L e9 r9, RB (if (k_setCapacity A a b) = 0 then (aU A 7 a.toNat b) else A) (if (k_setCapacity A a b) = 0 then (A :: Hs).take 8 else Hs) sv S L e9 r9, (by unfold k_setCapacity; (repeat' split) <;> omega), ?_, ?_, ?_, fun h1 h2 t f => RA_fr t f⟩
  · exact ux_imp (mL_setCapacity (mX5_setCapacity hA.1 hI.1 hI.2.1 hA.2.1 (by omega) ra rb) (fun v h1 q => ⟨_, q.1⟩) (fun E h1 q => xc_o3 q.2)) (QA_c hA (fun v h1 q => ⟨q.1, q.2.1, q.2.2.1, q.2.2.2.1, x_frDK_D q.2.2.2.2⟩) (fun E h1 q => ⟨x_frK_self q.1, q.2⟩) (by decide))
  · intro h1 f
    have hB1 := RB_fr hB f
    exact ux_imp (mX6_setCapacity hB1.1 hB1.2.1 hI.1 hI.2.1 ra rb) (QB_6 hB1)
  · refine fun h1 ta tb => ⟨_, _, _, _, _, _, _, RI_ch hI hP (fun k0 => ?_), ta, tb⟩
    unfold k_setCapacity at k0
    split at k0
    · omega
    split at k0
    · omega
    split at k0
    · omega
    rename_i w1 w2 w3
    obtain ⟨z1, z2⟩ := capacity_ok hI.1 hI.2.1 (c := a.toNat) (z := b) (by omega) (Decidable.not_not.mp w3)
    exact ⟨Inv_mono z1 (by omega) hP, z2⟩
theorem op_addLesson {l : Launch} {G : ux_G} {h : ux_H} {P : Nat} {a b c d e : Int} (hR : RLw P h) (hP : P + 13000 ≤ 10000000) (ra : -2147483648 ≤ a ∧ a ≤ 2147483647) (rb : -2147483648 ≤ b ∧ b ≤ 2147483647) (rc : -2147483648 ≤ c ∧ c ≤ 2147483647) (rd : -2147483648 ≤ d ∧ d ≤ 2147483647) (re : -2147483648 ≤ e ∧ e ≤ 2147483647) : OP P (fun Q => ux_M l G yL_addLesson iL_addLesson 6 2 [.ref 176, .int (iI a), .int (iI b), .int (iI c), .int (iI d), .int (iI e), .ref 202] h Q (fun _ _ => False)) (fun h1 Q => ux_M l G yX6_addLesson iX6_addLesson 6 0 [.ref 192, .int (iI a), .int (iI b), .int (iI c), .int (iI d), .int (iI e)] h1 Q (fun _ _ => False)) h := by
  obtain ⟨A, Hs, sv, S, L, e9, r9, hI, hA, hB⟩ := hR
  refine ⟨(s_fault A a b c d e), (nI A.2.1), RA (if (s_fault A a b c d e) = 0 then (s_putL A a b c d e) else A) (if (s_fault A a b c d e) = 0 then (A :: Hs).take 8 else Hs) sv S L e9 r9, RB (if (s_fault A a b c d e) = 0 then (s_putL A a b c d e) else A) (if (s_fault A a b c d e) = 0 then (A :: Hs).take 8 else Hs) sv S L e9 r9, (by unfold s_fault; (repeat' split) <;> omega), ?_, ?_, ?_, fun h1 h2 t f => RA_fr t f⟩
  · exact ux_imp (mL_addLesson (mX5_addLesson hA.1 hI.1 hI.2.1 hA.2.1 (by omega) ra rb rc rd re) (fun v h1 q => ⟨_, q.1⟩) (fun E h1 q => xc_o3 q.2)) (QA_c hA (fun v h1 q => ⟨q.1, q.2.1, q.2.2.1, q.2.2.2.1, x_frDK_D q.2.2.2.2⟩) (fun E h1 q => ⟨x_frK_self q.1, q.2⟩) (by decide))
  · intro h1 f
    have hB1 := RB_fr hB f
    exact ux_imp (mX6_addLesson ra rb rc rd re hB1.1 hB1.2.1 hI.1 hI.2.1) (QB_6 hB1)
  · refine fun h1 ta tb => ⟨_, _, _, _, _, _, _, RI_ch hI hP (fun k0 => ?_), ta, tb⟩
    obtain ⟨z1, z2⟩ := putL_ok hI.1 hI.2.1 k0
    exact ⟨Inv_mono z1 (by omega) hP, z2⟩
theorem op_removeLesson {l : Launch} {G : ux_G} {h : ux_H} {P : Nat} {a : Int} (hR : RLw P h) (hP : P + 13000 ≤ 10000000) (ra : -2147483648 ≤ a ∧ a ≤ 2147483647) : OP P (fun Q => ux_M l G yL_removeLesson iL_removeLesson 10 2 [.ref 176, .int (iI a), .ref 202] h Q (fun _ _ => False)) (fun h1 Q => ux_M l G yX6_removeLesson iX6_removeLesson 14 0 [.ref 192, .int (iI a)] h1 Q (fun _ _ => False)) h := by
  obtain ⟨A, Hs, sv, S, L, e9, r9, hI, hA, hB⟩ := hR
  refine ⟨(k_removeLesson A a), (nI (A.2.1 - 1)), RA (if (k_removeLesson A a) = 0 then (s_drop A a.toNat) else A) (if (k_removeLesson A a) = 0 then (A :: Hs).take 8 else Hs) sv S L e9 r9, RB (if (k_removeLesson A a) = 0 then (s_drop A a.toNat) else A) (if (k_removeLesson A a) = 0 then (A :: Hs).take 8 else Hs) sv S L e9 r9, (by unfold k_removeLesson; (repeat' split) <;> omega), ?_, ?_, ?_, fun h1 h2 t f => RA_fr t f⟩
  · exact ux_imp (mL_removeLesson (mX5_removeLesson hA.1 hI.1 hI.2.1 hA.2.1 (by omega) ra) (fun v h1 q => ⟨_, q.1⟩) (fun E h1 q => xc_o1 q.2)) (QA_c hA (fun v h1 q => ⟨q.1, q.2.1, q.2.2.1, q.2.2.2.1, x_frDK_D q.2.2.2.2⟩) (fun E h1 q => ⟨x_frK_self q.1, q.2⟩) (by decide))
  · intro h1 f
    have hB1 := RB_fr hB f
    exact ux_imp (mX6_removeLesson hB1.1 hB1.2.1 hI.1 hI.2.1 (by omega) ra) (QB_6 hB1)
  · refine fun h1 ta tb => ⟨_, _, _, _, _, _, _, RI_ch hI hP (fun k0 => ?_), ta, tb⟩
    unfold k_removeLesson at k0
    split at k0
    · omega
    obtain ⟨z1, z2⟩ := drop_ok hI.1 hI.2.1 (i := a.toNat) (by omega) (by omega)
    exact ⟨Inv_mono z1 (by omega) hP, z2⟩
theorem op_setRoom {l : Launch} {G : ux_G} {h : ux_H} {P : Nat} {a b : Int} (hR : RLw P h) (hP : P + 13000 ≤ 10000000) (ra : -2147483648 ≤ a ∧ a ≤ 2147483647) (rb : -2147483648 ≤ b ∧ b ≤ 2147483647) : OP P (fun Q => ux_M l G yL_setRoom iL_setRoom 9 4 [.ref 176, .int (iI a), .int (iI b), .ref 202] h Q (fun _ _ => False)) (fun h1 Q => ux_M l G yX6_setRoom iX6_setRoom 7 0 [.ref 192, .int (iI a), .int (iI b)] h1 Q (fun _ _ => False)) h := by
  obtain ⟨A, Hs, sv, S, L, e9, r9, hI, hA, hB⟩ := hR
  refine ⟨(k_setRoom A a b), (iI (aF A 12 a.toNat)), RA (if (k_setRoom A a b) = 0 then (aU A 12 a.toNat b) else A) (if (k_setRoom A a b) = 0 then (A :: Hs).take 8 else Hs) sv S L e9 r9, RB (if (k_setRoom A a b) = 0 then (aU A 12 a.toNat b) else A) (if (k_setRoom A a b) = 0 then (A :: Hs).take 8 else Hs) sv S L e9 r9, (by unfold k_setRoom; (repeat' split) <;> omega), ?_, ?_, ?_, fun h1 h2 t f => RA_fr t f⟩
  · exact ux_imp (mL_setRoom (mX5_setRoom hA.1 hI.1 hI.2.1 hA.2.1 (by omega) ra rb) (fun v h1 q => ⟨_, q.1⟩) (fun E h1 q => xc_o3 q.2)) (QA_c hA (fun v h1 q => ⟨q.1, q.2.1, q.2.2.1, q.2.2.2.1, x_frDK_D q.2.2.2.2⟩) (fun E h1 q => ⟨x_frK_self q.1, q.2⟩) (by decide))
  · intro h1 f
    have hB1 := RB_fr hB f
    exact ux_imp (mX6_setRoom hB1.1 hB1.2.1 hI.1 hI.2.1 ra rb) (QB_6 hB1)
  · refine fun h1 ta tb => ⟨_, _, _, _, _, _, _, RI_ch hI hP (fun k0 => ?_), ta, tb⟩
    unfold k_setRoom at k0
    split at k0
    · omega
    split at k0
    · omega
    split at k0
    · omega
    rename_i w1 w2 w3
    obtain ⟨z1, z2⟩ := room_ok hI.1 hI.2.1 (i := a.toNat) (c := b.toNat) (by omega) (by omega) (Decidable.not_not.mp w3)
    have eb : (b.toNat : Int) = b := by omega
    rw [eb] at z1 z2
    exact ⟨Inv_mono z1 (by omega) hP, z2⟩
theorem op_setAbsent {l : Launch} {G : ux_G} {h : ux_H} {P : Nat} {a b : Int} {z : Bool} (hR : RLw P h) (hP : P + 13000 ≤ 10000000) (ra : -2147483648 ≤ a ∧ a ≤ 2147483647) (rb : -2147483648 ≤ b ∧ b ≤ 2147483647) : OP P (fun Q => ux_M l G yL_setAbsent iL_setAbsent 10 3 [.ref 176, .int (iI a), .int (iI b), .int (if z then 1 else 0), .ref 202] h Q (fun _ _ => False)) (fun h1 Q => ux_M l G yX6_setAbsent iX6_setAbsent 14 0 [.ref 192, .int (iI a), .int (iI b), .int (if z then 1 else 0)] h1 Q (fun _ _ => False)) h := by
  obtain ⟨A, Hs, sv, S, L, e9, r9, hI, hA, hB⟩ := hR
  refine ⟨(k_setAbsent A a b z), (nI (s_turnn A a.toNat b)), RA (if (k_setAbsent A a b z) = 0 then (s_turn A a.toNat b) else A) (if (k_setAbsent A a b z) = 0 then (A :: Hs).take 8 else Hs) sv S L e9 r9, RB (if (k_setAbsent A a b z) = 0 then (s_turn A a.toNat b) else A) (if (k_setAbsent A a b z) = 0 then (A :: Hs).take 8 else Hs) sv S L e9 r9, (by unfold k_setAbsent; (repeat' split) <;> omega), ?_, ?_, ?_, fun h1 h2 t f => RA_fr t f⟩
  · exact ux_imp (mL_setAbsent (mX5_setAbsent hA.1 hI.1 hI.2.1 hA.2.1 (by omega) ra rb) (fun v h1 q => ⟨_, q.1⟩) (fun E h1 q => xc_o2 q.2)) (QA_c hA (fun v h1 q => ⟨q.1, q.2.1, q.2.2.1, q.2.2.2.1, x_frDK_D q.2.2.2.2⟩) (fun E h1 q => ⟨x_frK_self q.1, q.2⟩) (by decide))
  · intro h1 f
    have hB1 := RB_fr hB f
    exact ux_imp (mX6_setAbsent hB1.1 hB1.2.1 hI.1 hI.2.1 (by omega) ra rb) (QB_6 hB1)
  · refine fun h1 ta tb => ⟨_, _, _, _, _, _, _, RI_ch hI hP (fun k0 => ?_), ta, tb⟩
    unfold k_setAbsent at k0
    split at k0
    · omega
    split at k0
    · omega
    obtain ⟨z1, z2, _, _⟩ := turn_ok hI.1 hI.2.1 (t := a.toNat) (s := b.toNat) (by omega) (by omega) (by omega)
    have eb : (b.toNat : Int) = b := by omega
    rw [eb] at z1 z2
    exact ⟨Inv_mono z1 (by omega) hP, z2⟩
theorem op_uncover {l : Launch} {G : ux_G} {h : ux_H} {P : Nat} {a : Int} (hR : RLw P h) (hP : P + 13000 ≤ 10000000) (ra : -2147483648 ≤ a ∧ a ≤ 2147483647) : OP P (fun Q => ux_M l G yL_uncover iL_uncover 9 3 [.ref 176, .int (iI a), .ref 202] h Q (fun _ _ => False)) (fun h1 Q => ux_M l G yX6_uncover iX6_uncover 10 0 [.ref 192, .int (iI a)] h1 Q (fun _ _ => False)) h := by
  obtain ⟨A, Hs, sv, S, L, e9, r9, hI, hA, hB⟩ := hR
  refine ⟨(k_uncover A a), (iI (s_act A a.toNat)), RA (if (k_uncover A a) = 0 then (s_unc A a.toNat) else A) (if (k_uncover A a) = 0 then (A :: Hs).take 8 else Hs) sv S L e9 r9, RB (if (k_uncover A a) = 0 then (s_unc A a.toNat) else A) (if (k_uncover A a) = 0 then (A :: Hs).take 8 else Hs) sv S L e9 r9, (by unfold k_uncover; (repeat' split) <;> omega), ?_, ?_, ?_, fun h1 h2 t f => RA_fr t f⟩
  · exact ux_imp (mL_uncover (mX5_uncover hA.1 hI.1 hI.2.1 hA.2.1 (by omega) ra) (fun v h1 q => ⟨_, q.1⟩) (fun E h1 q => xc_o2 q.2)) (QA_c hA (fun v h1 q => ⟨q.1, q.2.1, q.2.2.1, q.2.2.2.1, x_frDK_D q.2.2.2.2⟩) (fun E h1 q => ⟨x_frK_self q.1, q.2⟩) (by decide))
  · intro h1 f
    have hB1 := RB_fr hB f
    exact ux_imp (mX6_uncover hB1.1 hB1.2.1 hI.1 hI.2.1 (by omega) ra) (QB_6 hB1)
  · refine fun h1 ta tb => ⟨_, _, _, _, _, _, _, RI_ch hI hP (fun k0 => ?_), ta, tb⟩
    obtain ⟨y1, y2, y3⟩ := s_e1_I (i := a.toNat) hI.1 (HO_of hI.2.1) (by omega)
    have z1 : Inv (P + 80 + 6) (s_unc A a.toNat) := (s_endc_I (i := a.toNat) y1 (by omega)).1
    have z2 := InvF_unc hI.1 hI.2.1 (i := a.toNat) (by omega)
    exact ⟨Inv_mono z1 (by omega) hP, z2⟩
theorem op_split {l : Launch} {G : ux_G} {h : ux_H} {P : Nat} {a b c : Int} (hR : RLw P h) (hP : P + 13000 ≤ 10000000) (ra : -2147483648 ≤ a ∧ a ≤ 2147483647) (rb : -2147483648 ≤ b ∧ b ≤ 2147483647) (rc : -2147483648 ≤ c ∧ c ≤ 2147483647) : OP P (fun Q => ux_M l G yL_split iL_split 11 5 [.ref 176, .int (iI a), .int (iI b), .int (iI c), .ref 202] h Q (fun _ _ => False)) (fun h1 Q => ux_M l G yX6_split iX6_split 8 0 [.ref 192, .int (iI a), .int (iI b), .int (iI c)] h1 Q (fun _ _ => False)) h := by
  obtain ⟨A, Hs, sv, S, L, e9, r9, hI, hA, hB⟩ := hR
  refine ⟨(k_split A a b c), (iI ((s_sz A a.toNat + 1) / 2)), RA (if (k_split A a b c) = 0 then (s_split A a.toNat b.toNat c.toNat) else A) (if (k_split A a b c) = 0 then (A :: Hs).take 8 else Hs) sv S L e9 r9, RB (if (k_split A a b c) = 0 then (s_split A a.toNat b.toNat c.toNat) else A) (if (k_split A a b c) = 0 then (A :: Hs).take 8 else Hs) sv S L e9 r9, (by unfold k_split; (repeat' split) <;> omega), ?_, ?_, ?_, fun h1 h2 t f => RA_fr t f⟩
  · exact ux_imp (mL_split (mX5_split hA.1 hI.1 hI.2.1 hA.2.1 (by omega) ra rb rc) (fun v h1 q => ⟨_, q.1⟩) (fun E h1 q => xc_o4 q.2)) (QA_c hA (fun v h1 q => ⟨q.1, q.2.1, q.2.2.1, q.2.2.2.1, x_frDK_D q.2.2.2.2⟩) (fun E h1 q => ⟨x_frK_self q.1, q.2⟩) (by decide))
  · intro h1 f
    have hB1 := RB_fr hB f
    exact ux_imp (mX6_split hB1.1 hB1.2.1 hI.1 hI.2.1 (by omega) ra rb rc) (QB_6 hB1)
  · refine fun h1 ta tb => ⟨_, _, _, _, _, _, _, RI_ch hI hP (fun k0 => ?_), ta, tb⟩
    unfold k_split at k0
    split at k0
    · omega
    split at k0
    · omega
    split at k0
    · omega
    split at k0
    · omega
    rename_i w1 w2 w3 w4
    have w5 := Decidable.not_not.mp w2
    rw [not_or, Decidable.not_not, Decidable.not_not] at w4
    rw [not_or, not_or, Decidable.not_not, Decidable.not_not] at w3
    obtain ⟨z1, z2⟩ := split_ok hI.1 hI.2.1 (i := a.toNat) (a := b.toNat) (b := c.toNat) (by omega) (by omega) (by omega) (by omega) w5 (by omega) w3.2.1 w3.2.2 w4.1 w4.2
    exact ⟨Inv_mono z1 (by omega) hP, z2⟩
theorem op_unsplit {l : Launch} {G : ux_G} {h : ux_H} {P : Nat} {a : Int} (hR : RLw P h) (hP : P + 13000 ≤ 10000000) (ra : -2147483648 ≤ a ∧ a ≤ 2147483647) : OP P (fun Q => ux_M l G yL_unsplit iL_unsplit 9 3 [.ref 176, .int (iI a), .ref 202] h Q (fun _ _ => False)) (fun h1 Q => ux_M l G yX6_unsplit iX6_unsplit 9 0 [.ref 192, .int (iI a)] h1 Q (fun _ _ => False)) h := by
  obtain ⟨A, Hs, sv, S, L, e9, r9, hI, hA, hB⟩ := hR
  refine ⟨(k_unsplit A a), (iI (s_sz A a.toNat)), RA (if (k_unsplit A a) = 0 then (s_ends A a.toNat) else A) (if (k_unsplit A a) = 0 then (A :: Hs).take 8 else Hs) sv S L e9 r9, RB (if (k_unsplit A a) = 0 then (s_ends A a.toNat) else A) (if (k_unsplit A a) = 0 then (A :: Hs).take 8 else Hs) sv S L e9 r9, (by unfold k_unsplit; (repeat' split) <;> omega), ?_, ?_, ?_, fun h1 h2 t f => RA_fr t f⟩
  · exact ux_imp (mL_unsplit (mX5_unsplit hA.1 hI.1 hI.2.1 hA.2.1 (by omega) ra) (fun v h1 q => ⟨_, q.1⟩) (fun E h1 q => xc_o2 q.2)) (QA_c hA (fun v h1 q => ⟨q.1, q.2.1, q.2.2.1, q.2.2.2.1, x_frDK_D q.2.2.2.2⟩) (fun E h1 q => ⟨x_frK_self q.1, q.2⟩) (by decide))
  · intro h1 f
    have hB1 := RB_fr hB f
    exact ux_imp (mX6_unsplit hB1.1 hB1.2.1 hI.1 hI.2.1 (by omega) ra) (QB_6 hB1)
  · refine fun h1 ta tb => ⟨_, _, _, _, _, _, _, RI_ch hI hP (fun k0 => ?_), ta, tb⟩
    have z1 := Inv_ends (i := a.toNat) hI.1 (by omega)
    have z2 := InvF_ends hI.1 hI.2.1 a.toNat
    exact ⟨Inv_mono z1 (by omega) hP, z2⟩
theorem op_coverDay {l : Launch} {G : ux_G} {h : ux_H} {P : Nat} {a : Int} (hR : RLw P h) (hP : P + 13000 ≤ 10000000) (ra : -2147483648 ≤ a ∧ a ≤ 2147483647) : OP P (fun Q => ux_M l G yL_coverDay iL_coverDay 10 2 [.ref 176, .int (iI a), .ref 202] h Q (fun _ _ => False)) (fun h1 Q => ux_M l G yX6_coverDay iX6_coverDay 10 0 [.ref 192, .int (iI a)] h1 Q (fun _ _ => False)) h := by
  obtain ⟨A, Hs, sv, S, L, e9, r9, hI, hA, hB⟩ := hR
  refine ⟨(k_coverDay a), (nI (s_cvs A (s_opl A a.toNat 6)).2), RA (if (k_coverDay a) = 0 then (s_cvs A (s_opl A a.toNat 6)).1 else A) (if (k_coverDay a) = 0 then (A :: Hs).take 8 else Hs) sv S L e9 r9, RB (if (k_coverDay a) = 0 then (s_cvs A (s_opl A a.toNat 6)).1 else A) (if (k_coverDay a) = 0 then (A :: Hs).take 8 else Hs) sv S L e9 r9, (by unfold k_coverDay; (repeat' split) <;> omega), ?_, ?_, ?_, fun h1 h2 t f => RA_fr t f⟩
  · exact ux_imp (mL_coverDay (mX5_coverDay hA.1 hI.1 hI.2.1 hA.2.1 (by omega) ra) (fun v h1 q => ⟨_, q.1⟩) (fun E h1 q => xc_o1 q.2)) (QA_c hA (fun v h1 q => ⟨q.1, q.2.1, q.2.2.1, q.2.2.2.1, x_frDK_D q.2.2.2.2⟩) (fun E h1 q => ⟨x_frK_self q.1, q.2⟩) (by decide))
  · intro h1 f
    have hB1 := RB_fr hB f
    exact ux_imp (mX6_coverDay hB1.1 hB1.2.1 hI.1 hI.2.1 (by omega) ra) (QB_6 hB1)
  · refine fun h1 ta tb => ⟨_, _, _, _, _, _, _, RI_ch hI hP (fun k0 => ?_), ta, tb⟩
    have i2 := hI.1.2.1
    have ln := s_opl_len A a.toNat 6
    obtain ⟨z1, z2, _⟩ := s_cvs_ok (s_opl A a.toNat 6) hI.1 hI.2.1 (fun m hm => ⟨(s_opl_mem.mp hm).1, (s_opl_mem.mp hm).2.1⟩) (s_opl_ndq _ _) (by omega)
    exact ⟨Inv_mono z1 (by omega) hP, z2⟩
theorem op_carryOut {l : Launch} {G : ux_G} {h : ux_H} {P : Nat} {a : Int} (hR : RLw P h) (hP : P + 13000 ≤ 10000000) (ra : -2147483648 ≤ a ∧ a ≤ 2147483647) : OP P (fun Q => ux_M l G yL_carryOut iL_carryOut 15 4 [.ref 176, .int (iI a), .ref 202] h Q (fun _ _ => False)) (fun h1 Q => ux_M l G yX6_carryOut iX6_carryOut 15 0 [.ref 192, .int (iI a)] h1 Q (fun _ _ => False)) h := by
  obtain ⟨A, Hs, sv, S, L, e9, r9, hI, hA, hB⟩ := hR
  refine ⟨(k_plan A a), (nI (s_opl A a.toNat 6).length), RA (if (k_plan A a) = 0 then (pl_bg A (s_opl A a.toNat 6) (pl_of A a.toNat).2.2) else A) (if (k_plan A a) = 0 then (A :: Hs).take 8 else Hs) sv S L e9 r9, RB (if (k_plan A a) = 0 then (pl_bg A (s_opl A a.toNat 6) (pl_of A a.toNat).2.2) else A) (if (k_plan A a) = 0 then (A :: Hs).take 8 else Hs) sv S L e9 r9, (by unfold k_plan k_planDay; (repeat' split) <;> omega), ?_, ?_, ?_, fun h1 h2 t f => RA_fr t f⟩
  · exact ux_imp (mL_carryOut (mX5_carryOut hA.1 hI.1 hI.2.1 (by omega) hA.2.1 ra) (fun v h1 q => ⟨_, q.1⟩) (fun E h1 q => xc_o3 q.2)) (QA_c hA (fun v h1 q => q) (fun E h1 q => q) (by decide))
  · intro h1 f
    have hB1 := RB_fr hB f
    exact ux_imp (mX6_carryOut hB1.1 hB1.2.1 hI.1 hI.2.1 (by omega) ra) (QB_6 hB1)
  · refine fun h1 ta tb => ⟨_, _, _, _, _, _, _, RI_ch hI hP (fun k0 => ?_), ta, tb⟩
    have i2 := hI.1.2.1
    have ln := s_opl_len A a.toNat 6
    unfold k_plan at k0
    split at k0
    · omega
    split at k0
    · omega
    rename_i w1 w2
    rw [not_or] at w2
    obtain ⟨z1, z2⟩ := pl_bg_ok (pl_of_leg A a.toNat w2.2) hI.1 hI.2.1 pl_rest_opl (by omega)
    exact ⟨Inv_mono z1 (by omega) hP, z2⟩
