/-! THE LAW: both sides' worlds together. -/
theorem shr_mx (A : Ab) : ∀ n, 1 ≤ n → pl_mx A n = s_shr A (s_ext A true n) := by
  intro n
  induction n with
  | zero => intro h; omega
  | succ n ih =>
    intro _
    show (if n = 0 then s_shr A 0 else if pl_mx A n < s_shr A n then s_shr A n else pl_mx A n) = s_shr A (if n = 0 then 0 else if s_exc A true n (s_ext A true n) = true then n else s_ext A true n)
    by_cases q : n = 0
    · rw [if_pos q, if_pos q]
    · rw [if_neg q, if_neg q, ih (by omega)]
      by_cases c : s_shr A (s_ext A true n) < s_shr A n
      · rw [if_pos c, if_pos (by unfold s_exc; rw [if_pos rfl]; exact decide_eq_true c)]
      · rw [if_neg c, if_neg (by unfold s_exc; rw [if_pos rfl]; exact fun y => c (of_decide_eq_true y))]
theorem shr_mn (A : Ab) : ∀ n, 1 ≤ n → pl_mn A n = s_shr A (s_ext A false n) := by
  intro n
  induction n with
  | zero => intro h; omega
  | succ n ih =>
    intro _
    show (if n = 0 then s_shr A 0 else if s_shr A n < pl_mn A n then s_shr A n else pl_mn A n) = s_shr A (if n = 0 then 0 else if s_exc A false n (s_ext A false n) = true then n else s_ext A false n)
    by_cases q : n = 0
    · rw [if_pos q, if_pos q]
    · rw [if_neg q, if_neg q, ih (by omega)]
      by_cases c : s_shr A n < s_shr A (s_ext A false n)
      · rw [if_pos c, if_pos (by unfold s_exc; rw [if_neg (by decide)]; exact decide_eq_true c)]
      · rw [if_neg c, if_neg (by unfold s_exc; rw [if_neg (by decide)]; exact fun y => c (of_decide_eq_true y))]
theorem spread_eq {A : Ab} (h : A.1 ≠ 0) : pl_sp A = s_shr A (s_ext A true A.1) - s_shr A (s_ext A false A.1) := by
  unfold pl_sp
  rw [if_neg h, shr_mx A _ (by omega), shr_mn A _ (by omega)]
/-- the class's world; the reference's; what both keep to -/
def RA (A : Ab) (Hs : List Ab) (sv : Bool) (S : Ab) (L : List Nat) (e r : Int) (h : ux_H) : Prop := rC 0 A h ∧ rH Hs h ∧ xgi h 176 7 = (if sv then 1 else 0) ∧ (sv = true → rC 16 S h) ∧ rI L h ∧ xgi h 176 9 = iI e ∧ xgi h 176 8 = iI r
def RB (A : Ab) (Hs : List Ab) (sv : Bool) (S : Ab) (L : List Nat) (e r : Int) (h : ux_H) : Prop := rM 193 0 A h ∧ rK Hs h ∧ rS sv S h ∧ rIm L h ∧ xgi h 192 9 = iI e ∧ xgi h 192 10 = iI (if r = -1 then 0 else r)
def RI (P : Nat) (A : Ab) (Hs : List Ab) (sv : Bool) (S : Ab) (e r : Int) : Prop := Inv P A ∧ InvF A ∧ (∀ B, B ∈ Hs → Inv P B ∧ InvF B) ∧ (sv = true → Inv P S ∧ InvF S) ∧ (-1 ≤ e ∧ e ≤ 100) ∧ (r = -1 ∨ 1 ≤ r ∧ r ≤ 100)
def RLw (P : Nat) (h : ux_H) : Prop := ∃ (A : Ab) (Hs : List Ab) (sv : Bool) (S : Ab) (L : List Nat) (e r : Int), RI P A Hs sv S e r ∧ RA A Hs sv S L e r h ∧ RB A Hs sv S L e r h
theorem xgi_eq {h h' : ux_H} {k j : Nat} (e : h' k j = h k j) : xgi h' k j = xgi h k j := by unfold xgi; rw [e]
theorem rI_of {L : List Nat} {h h' : ux_H} (hL : rI L h) (e8 : ∀ j, h' 188 j = h 188 j) (e9 : ∀ j, h' 189 j = h 189 j) : rI L h' :=
  ⟨(xgi_eq (e8 1)).trans hL.1, hL.2.1, hL.2.2.1, fun j v q => (xgi_eq (e9 j)).trans (hL.2.2.2 j v q)⟩
theorem rIm_of {L : List Nat} {h h' : ux_H} (hL : rIm L h) (e8 : h' 192 8 = h 192 8) (e9 : ∀ j, h' 197 j = h 197 j) : rIm L h' :=
  ⟨(xgi_eq e8).trans hL.1, hL.2.1, hL.2.2.1, fun j v q => (xgi_eq (e9 j)).trans (hL.2.2.2 j v q)⟩
theorem rS_of {sv : Bool} {S : Ab} {h h' : ux_H} (hS : rS sv S h) (e3 : h' 192 3 = h 192 3) (e : ∀ j, h' 194 j = h 194 j) : rS sv S h' :=
  ⟨(xgi_eq e3).trans hS.1, fun q => ⟨rM_fr (hS.2 q).1 e, (hS.2 q).2⟩⟩
/-- the class's world doesn't look at the reference's cells -/
theorem RA_fr {A : Ab} {Hs : List Ab} {sv : Bool} {S : Ab} {L : List Nat} {e r : Int} {h h' : ux_H} (hA : RA A Hs sv S L e r h) (hF : ∀ c, c < 192 → ∀ j, h' c j = h c j) : RA A Hs sv S L e r h' := by
  obtain ⟨a1, a2, a3, a4, a5, a6, a7⟩ := hA
  exact ⟨rC_ne a1 fun k _ q j => hF k (by omega) j, rH_ne a2 fun k _ q _ j => hF k (by omega) j, (xgi_eq (hF 176 (by decide) 7)).trans a3, fun q => rC_ne (a4 q) fun k _ q j => hF k (by omega) j, rI_of a5 (fun j => hF 188 (by decide) j) (fun j => hF 189 (by decide) j), (xgi_eq (hF 176 (by decide) 9)).trans a6, (xgi_eq (hF 176 (by decide) 8)).trans a7⟩
theorem RB_fr {A : Ab} {Hs : List Ab} {sv : Bool} {S : Ab} {L : List Nat} {e r : Int} {h h' : ux_H} (hB : RB A Hs sv S L e r h) (hF : ∀ c, 192 ≤ c → c < 202 → ∀ j, h' c j = h c j) : RB A Hs sv S L e r h' := by
  obtain ⟨a1, a2, a3, a4, a5, a6⟩ := hB
  exact ⟨rM_fr a1 fun j => hF 193 (by decide) (by decide) j, rK_fr a2 (fun j => hF 196 (by decide) (by decide) j) (hF 192 (by decide) (by decide) 6), rS_of a3 (hF 192 (by decide) (by decide) 3) (fun j => hF 194 (by decide) (by decide) j), rIm_of a4 (hF 192 (by decide) (by decide) 8) (fun j => hF 197 (by decide) (by decide) j), (xgi_eq (hF 192 (by decide) (by decide) 9)).trans a5, (xgi_eq (hF 192 (by decide) (by decide) 10)).trans a6⟩
/-- a call of the class that changes the school and its past -/
theorem RA_mk {A A2 : Ab} {Hs Hs2 : List Ab} {sv : Bool} {S : Ab} {L : List Nat} {e r : Int} {h h' : ux_H} (hA : RA A Hs sv S L e r h) (hC : rC 0 A2 h') (hH : rH Hs2 h') (hF : ∀ c j, (16 ≤ c ∧ c < 32) ∨ c = 176 ∨ c = 188 ∨ c = 189 → h' c j = h c j) : RA A2 Hs2 sv S L e r h' := by
  obtain ⟨a1, a2, a3, a4, a5, a6, a7⟩ := hA
  exact ⟨hC, hH, (xgi_eq (hF 176 7 (by decide))).trans a3, fun q => rC_ne (a4 q) fun k q1 q2 j => hF k j (by omega), rI_of a5 (fun j => hF 188 j (by decide)) (fun j => hF 189 j (by decide)), (xgi_eq (hF 176 9 (by decide))).trans a6, (xgi_eq (hF 176 8 (by decide))).trans a7⟩
/-- a call of the reference that changes the state and what is kept -/
theorem RB_mk {A A2 : Ab} {Hs Hs2 : List Ab} {sv : Bool} {S : Ab} {L : List Nat} {e r : Int} {h h' : ux_H} (hB : RB A Hs sv S L e r h) (hM : rM 193 0 A2 h') (hK : rK Hs2 h') (hF : x_fN h h') : RB A2 Hs2 sv S L e r h' := by
  obtain ⟨a1, a2, a3, a4, a5, a6⟩ := hB
  exact ⟨hM, hK, rS_of a3 (hF.2 3 (by decide)) (fun j => hF.1 194 (by decide) j), rIm_of a4 (hF.2 8 (by decide)) (fun j => hF.1 197 (by decide) j), (xgi_eq (hF.2 9 (by decide))).trans a5, (xgi_eq (hF.2 10 (by decide))).trans a6⟩
theorem RI_mono {P P2 : Nat} {A : Ab} {Hs : List Ab} {sv : Bool} {S : Ab} {e r : Int} (hI : RI P A Hs sv S e r) (h : P ≤ P2) (h2 : P2 ≤ 10000000) : RI P2 A Hs sv S e r :=
  ⟨Inv_mono hI.1 h h2, hI.2.1, fun B q => ⟨Inv_mono (hI.2.2.1 B q).1 h h2, (hI.2.2.1 B q).2⟩, fun q => ⟨Inv_mono (hI.2.2.2.1 q).1 h h2, (hI.2.2.2.1 q).2⟩, hI.2.2.2.2⟩
/-- .. with another state now, the old one kept -/
theorem RI_ch {P : Nat} {A A2 : Ab} {Hs : List Ab} {sv : Bool} {S : Ab} {e r : Int} {K : Nat} (hI : RI P A Hs sv S e r) (hP : P + 13000 ≤ 10000000) (h2 : K = 0 → Inv (P + 13000) A2 ∧ InvF A2) : RI (P + 13000) (if K = 0 then A2 else A) (if K = 0 then (A :: Hs).take 8 else Hs) sv S e r := by
  obtain ⟨b1, b2, b3, b4, b5, b6⟩ := RI_mono hI (show P ≤ P + 13000 by omega) hP
  by_cases q : K = 0
  · rw [if_pos q, if_pos q]
    obtain ⟨c1, c2⟩ := h2 q
    refine ⟨c1, c2, fun B hB => ?_, b4, b5, b6⟩
    have hB2 := List.mem_of_mem_take hB
    rcases List.mem_cons.mp hB2 with rfl | hB3
    · exact ⟨b1, b2⟩
    · exact b3 B hB3
  · rw [if_neg q, if_neg q]
    exact ⟨b1, b2, b3, b4, b5, b6⟩
/-- a contract's end may be said more weakly -/
theorem ux_imp {l : Launch} {G : ux_G} {y : MethodName} {mi : ux_I} {d k : Nat} {av : List Value} {h : ux_H} {Q Q' : Option Value → ux_H → Prop} {X : String → ux_H → Prop} (hM : ux_M l G y mi d k av h Q X) (hi : ∀ v h', Q v h' → Q' v h') : ux_M l G y mi d k av h Q' X := by
  intro p e h1 h2 h3 s m args below h4 h5 h6 h7
  obtain ⟨n, o, g1, g2, g3, g4⟩ := hM p e h1 h2 h3 s m args below h4 h5 h6 h7
  refine ⟨n, o, g1, g2, g3, ?_⟩
  rcases g4 with ⟨⟨⟨v, h', a, b, c⟩, d⟩, f⟩ | g4
  · exact Or.inl ⟨⟨⟨v, h', a, hi _ _ b, c⟩, d⟩, f⟩
  · exact Or.inr g4
/-- how a call of the class ends in the law: the code, the answer in the row, the class's world; the reference's stands as it was -/
def QA (K : Nat) (R : Int32) (T : ux_H → Prop) (h : ux_H) (v : Option Value) (h' : ux_H) : Prop := v = some (.int (nI K)) ∧ (K = 0 → h' 202 0 = .long R.toInt64) ∧ T h' ∧ ∀ c, 192 ≤ c → c < 202 → ∀ j, h' c j = h c j
/-- how a call of the reference ends -/
def QB (K : Nat) (R : Int32) (T : ux_H → Prop) (h : ux_H) (v : Option Value) (h' : ux_H) : Prop := (∃ x, v = some (.int x) ∧ (K = 0 → x = R)) ∧ xgi h' 192 0 = nI K ∧ T h' ∧ ∀ c, c < 192 ∨ 201 < c → ∀ j, h' c j = h c j
theorem QA_of {Q : Option Value → ux_H → Prop} {X : String → ux_H → Prop} {Es : List String} {K : Nat} {R : Int32} {T : ux_H → Prop} {h : ux_H} (hq : ∀ v h1, Q v h1 → v = some (.int R) ∧ K = 0 ∧ T h1 ∧ ∀ c, 192 ≤ c → c < 202 → ∀ j, h1 c j = h c j) (hx : ∀ E h1, X E h1 → xc K Es E ∧ T h1 ∧ ∀ c, 192 ≤ c → c < 202 → ∀ j, h1 c j = h c j)
    (hT : ∀ h1 h2 : ux_H, T h1 → (∀ c, c < 192 → ∀ j, h2 c j = h1 c j) → T h2) (hn : Es.Nodup) : ∀ v h', QW Q X Es v h' → QA K R T h v h' := by
  rintro v h' (⟨rfl, z, h1, q, rfl⟩ | ⟨k, E, e1, rfl, q⟩)
  · obtain ⟨e, rfl, t, f⟩ := hq _ _ q
    have ez : z = R := by
      have := Option.some.inj e
      exact Value.int.inj this
    subst ez
    refine ⟨rfl, fun _ => by unfold xsv; rw [if_pos ⟨rfl, rfl⟩], hT h1 _ t fun c hc j => by unfold xsv; rw [if_neg (by omega)], fun c c1 c2 j => ?_⟩
    unfold xsv
    rw [if_neg (by omega)]
    exact f c c1 c2 j
  · obtain ⟨⟨x1, x2⟩, t, f⟩ := hx _ _ q
    have hk : k < Es.length := by
      rcases Nat.lt_or_ge k Es.length with z | z
      · exact z
      · rw [List.getElem?_eq_none z] at e1; cases e1
    have e2 : k = K - 1 := (List.getElem?_inj hk hn).mp (e1.trans x2.symm)
    refine ⟨?_, fun q => by omega, t, f⟩
    rw [show k + 1 = K by omega]
theorem QB_6 {K : Nat} {R : Int32} {A A2 : Ab} {Hs : List Ab} {sv : Bool} {S : Ab} {L : List Nat} {e r : Int} {h : ux_H} (hB : RB A Hs sv S L e r h) : ∀ v h', Q6 K R A A2 Hs h v h' → QB K R (RB (if K = 0 then A2 else A) (if K = 0 then (A :: Hs).take 8 else Hs) sv S L e r) h v h' := by
  rintro v h' ⟨e1, e2, e3, e4, e5⟩
  exact ⟨⟨_, e1, fun q => if_pos q⟩, e2, RB_mk hB e3 e4 e5, fun c hc j => e5.1 c (by omega) j⟩
theorem QB_R {K : Nat} {R : Int32} {A : Ab} {Hs : List Ab} {sv : Bool} {S : Ab} {L : List Nat} {e r : Int} {h : ux_H} (hB : RB A Hs sv S L e r h) : ∀ v h', QR K R A Hs h v h' → QB K R (RB A Hs sv S L e r) h v h' := by
  rintro v h' ⟨e1, e2, e3, e4, e5⟩
  exact ⟨⟨_, e1, fun q => if_pos q⟩, e2, RB_mk hB e3 e4 e5, fun c hc j => e5.1 c (by omega) j⟩
/-- what a call of the law gives: both calls, and the worlds behind -/
def OP (P : Nat) (MA : (Option Value → ux_H → Prop) → Prop) (MB : ux_H → (Option Value → ux_H → Prop) → Prop) (h : ux_H) : Prop :=
  ∃ (K : Nat) (R : Int32) (TA TB : ux_H → Prop), K ≤ 100 ∧ MA (QA K R TA h) ∧ (∀ h1, (∀ c, 192 ≤ c → c < 202 → ∀ j, h1 c j = h c j) → MB h1 (QB K R TB h1)) ∧ (∀ h1, TA h1 → TB h1 → RLw (P + 13000) h1) ∧ ∀ h1 h2 : ux_H, TA h1 → (∀ c, c < 192 → ∀ j, h2 c j = h1 c j) → TA h2
theorem iI_self (x : Int32) : iI x.toInt = x := Int32.ofInt_toInt x
theorem i_rg (x : Int32) : -2147483648 ≤ x.toInt ∧ x.toInt ≤ 2147483647 := ⟨Int32.le_toInt x, Int.le_of_lt_add_one (Int32.toInt_lt x)⟩
