/-! THE CLASS: decisions, masks, the best, the points found anew. -/
def s_all (P : Nat → Bool) : Nat → Bool
  | 0 => true
  | n + 1 => s_all P n && P n
theorem s_all_iff {P : Nat → Bool} {n : Nat} : s_all P n = true ↔ ∀ i, i < n → P i = true := by
  induction n with
  | zero => exact ⟨fun _ i hi => absurd hi (Nat.not_lt_zero _), fun _ => rfl⟩
  | succ n ih =>
    unfold s_all
    rw [Bool.and_eq_true, ih]
    constructor
    · rintro ⟨a, b⟩ i hi
      rcases Nat.lt_or_eq_of_le (Nat.le_of_lt_succ hi) with q | q
      · exact a i q
      · rw [q]; exact b
    · exact fun q => ⟨fun i hi => q i (by omega), q n (by omega)⟩
theorem s_all_f {P : Nat → Bool} {n i : Nat} (hi : i < n) (hp : P i = false) : s_all P n = false := by
  cases e : s_all P n with
  | false => rfl
  | true => rw [s_all_iff.mp e i hi] at hp; cases hp
theorem s_all_s {P : Nat → Bool} {n : Nat} (h : s_all P n = true) (hp : P n = true) : s_all P (n + 1) = true := by simp [s_all, h, hp]
def s_mask (P : Nat → Bool) : Nat → Int32
  | 0 => 0
  | n + 1 => if P n then s_mask P n ||| (1 <<< (nI n &&& 31)) else s_mask P n
def s_free (A : Ab) (t : Nat) (s : Int) : Bool := !s_away A t s && decide (s_find A 11 s t = -1) && decide (s_find A 13 s t = -1)
def s_con (A : Ab) (t : Nat) (d : Int) : Nat := s_cnt (fun j => decide (aF A 13 j = (t : Int)) && decide (aF A 8 j / 6 = d)) A.2.1
def s_bar (A : Ab) (i t : Nat) : Int := if aF A 11 i = t then 1 else if s_away A t (aF A 8 i) then 2 else if s_find A 11 (aF A 8 i) t ≠ -1 then 3 else if s_find A 13 (aF A 8 i) t ≠ -1 then 4 else if aF A 3 t ≤ s_con A t (aF A 8 i / 6) then 5 else 0
theorem s_bar_r (A : Ab) (i t : Nat) : 0 ≤ s_bar A i t ∧ s_bar A i t ≤ 5 := by
  unfold s_bar
  split; omega
  split; omega
  split; omega
  split; omega
  split <;> omega
def s_has (A : Ab) (t i : Nat) : Bool := s_bit (aF A 1 t) (aF A 10 i)
def s_shw (A : Ab) (i t : Nat) : Int := s_share A t (aF A 4 t + s_worth A i t)
/-- t is better for i than o -/
def s_btr (A : Ab) (i t o : Nat) : Bool := if s_has A t i = s_has A o i then decide (s_shw A i t < s_shw A i o) else s_has A t i
def s_best (A : Ab) (i : Nat) : Nat → Int
  | 0 => -1
  | n + 1 => if s_bar A i n = 0 ∧ (s_best A i n = -1 ∨ s_btr A i n (s_best A i n).toNat = true) then n else s_best A i n
theorem s_best_r (A : Ab) (i n : Nat) : -1 ≤ s_best A i n ∧ s_best A i n < n := by
  induction n with
  | zero => exact ⟨by simp [s_best], by simp [s_best]⟩
  | succ n ih => unfold s_best; split <;> omega
/-- n's share is further out than f's -/
def s_exc (A : Ab) (b : Bool) (n f : Nat) : Bool := if b then decide (s_share A f (aF A 4 f) < s_share A n (aF A 4 n)) else decide (s_share A n (aF A 4 n) < s_share A f (aF A 4 f))
def s_ext (A : Ab) (b : Bool) : Nat → Nat
  | 0 => 0
  | n + 1 => if n = 0 then 0 else if s_exc A b n (s_ext A b n) = true then n else s_ext A b n
theorem s_ext_r (A : Ab) (b : Bool) (n : Nat) : s_ext A b n < n ∨ s_ext A b n = 0 := by
  induction n with
  | zero => exact Or.inr rfl
  | succ n ih =>
    unfold s_ext
    split
    · exact Or.inr rfl
    · split <;> omega
def s_psum (A : Ab) (set : Int32) : Nat → Int
  | 0 => 0
  | n + 1 => s_psum A set n + (if set >>> (nI n &&& 31) &&& 1 = 0 then 0 else aF A 4 n)
def s_anew (A : Ab) (t : Nat) : Nat → Int
  | 0 => 0
  | n + 1 => s_anew A t n + (if aF A 13 n = t then s_worth A n t else 0) + (if aF A 14 n = -1 then 0 else (if s_act A (aF A 14 n).toNat = t then 1 else 0) + (if s_act A (aF A 15 n).toNat = t then 1 else 0))
set_option maxRecDepth 100000 in
theorem wX4_allowsSize {l : Launch} {G : ux_G} {h : ux_H} {c : Nat} {z : Int} {A : Ab} {P : Nat} (hC : rC 0 A h) (hI : Inv P A) (hJ : InvF A) (hc : c < 6) (hz : 0 ≤ z ∧ z ≤ 100) : ∀ (n : Nat) (j : Nat), j ≤ A.2.1 → s_all (fun i => !decide (aF A 9 i = (c : Int)) || (!decide (s_st A i = 2) && decide (z + s_gst A i A.2.1 ≤ aF A 7 (aF A 12 i).toNat))) j = true → A.2.1 - j < n → ux_W l G iX4_allowsSize (ux_rm 6 0) (ux_Z G 0 (fun vv h' => vv = some (.int (if s_all (fun i => !decide (aF A 9 i = (c : Int)) || (!decide (s_st A i = 2) && decide (z + s_gst A i A.2.1 ≤ aF A 7 (aF A 12 i).toNat))) A.2.1 then 1 else 0)) ∧ h' = h) (fun _ _ => False)) 2 [some (.ref 0), some (.int (nI c)), some (.int (iI z)), some (.int (nI j))] [] (h) 0 := by
  intro n
  induction n with
  | zero => intro j hj hq hn; exact absurd hn (Nat.not_lt_zero _)
  | succ n ih =>
    intro j hj hq hn
    obtain ⟨i1, i2, i3, i4, i5, i6⟩ := id hI
    refine g_iload_n dX4_allowsSize_2 rfl ?_
    refine g_aload_n dX4_allowsSize_3 rfl ?_
    refine g_geti fX4_15 dX4_allowsSize_4 rfl rfl ?_
    refine g_top hC.2.1 ?_
    refine g_icmp_ge (tgt := 54) dX4_allowsSize_7 (by decide) (fun c7 => ?_) (fun c7 => ?_)
    · have e : j = A.2.1 := by have := xlt_i c7 (by omega) (by omega); omega
      subst e
      refine g_iconst (v := 1) dX4_allowsSize_54 (by decide) ?_
      refine g_ireturn dX4_allowsSize_55 rfl rfl (by decide) ?_
      exact ⟨by rw [hq]; rfl, rfl⟩
    · have hlt : j < A.2.1 := xnl_i c7 (by omega) (by omega)
      have il := i6 j hlt
      have hr := s_st_r A j
      have gr := s_gst_r hI j A.2.1 (Nat.le_refl _)
      have cc := i5 (aF A 12 j).toNat (by omega)
      refine g_aload_n dX4_allowsSize_10 rfl ?_
      refine g_getr (q := 9) fX4_49 dX4_allowsSize_11 rfl rfl rfl ?_
      refine g_iload_n dX4_allowsSize_14 rfl ?_
      refine f1_SN (u' := 0) lX4_85 kX5_at (mA_l (f := 9) hC i2 (by assumption) rfl) dX4_allowsSize_15 rfl rfl rfl rfl rfl rfl ?_
      refine g_iload_n dX4_allowsSize_18 rfl ?_
      refine g_icmp_ne (tgt := 48) dX4_allowsSize_19 (by decide) (fun c19 => ?_) (fun c19 => ?_)
      · rw [xq (by omega) (by omega) (by omega)] at c19
        refine s_inc (v := nI (j + 1)) dX4_allowsSize_48 rfl nI_s rfl rfl rfl ?_
        dsimp only [List.set]
        refine g_goto (tgt := 2) dX4_allowsSize_51 (by decide) ?_
        exact ih (j + 1) (by omega) (s_all_s (P := fun i => !decide (aF A 9 i = (c : Int)) || (!decide (s_st A i = 2) && decide (z + s_gst A i A.2.1 ≤ aF A 7 (aF A 12 i).toNat))) hq (by simp [c19])) (by omega)
      · rw [xq (by omega) (by omega) (by omega)] at c19
        refine g_aload_n dX4_allowsSize_22 rfl ?_
        refine g_iload_n dX4_allowsSize_23 rfl ?_
        refine f1_V (u' := 0) lX4_100 kX4_stateOf (mX4_stateOf hC hI (InvS_of hI hJ) (by assumption)) dX4_allowsSize_24 rfl rfl rfl rfl rfl rfl rfl rfl ?_
        refine g_iconst (v := 2) dX4_allowsSize_27 (by decide) ?_
        refine g_icmp_eq (tgt := 46) dX4_allowsSize_28 (by decide) (fun c28 => ?_) (fun c28 => ?_)
        · rw [show (2 : Int32) = iI 2 by decide, iI_eq (by omega) (by omega) (by omega) (by omega)] at c28
          refine g_iconst (v := 0) dX4_allowsSize_46 (by decide) ?_
          refine g_ireturn dX4_allowsSize_47 rfl rfl (by decide) ?_
          exact ⟨by rw [s_all_f (P := fun i => !decide (aF A 9 i = (c : Int)) || (!decide (s_st A i = 2) && decide (z + s_gst A i A.2.1 ≤ aF A 7 (aF A 12 i).toNat))) hlt (by simp [c19, c28])]; rfl, rfl⟩
        · rw [show (2 : Int32) = iI 2 by decide, iI_eq (by omega) (by omega) (by omega) (by omega)] at c28
          refine g_iload_n dX4_allowsSize_31 rfl ?_
          refine g_aload_n dX4_allowsSize_32 rfl ?_
          refine g_iload_n dX4_allowsSize_33 rfl ?_
          refine f1_V (u' := 0) lX4_151 kX4_guestsOf (mX4_guestsOf hC hI (by assumption)) dX4_allowsSize_34 rfl rfl rfl rfl rfl rfl rfl rfl ?_
          refine g_iadd dX4_allowsSize_37 ?_
          refine g_aload_n dX4_allowsSize_38 rfl ?_
          refine g_iload_n dX4_allowsSize_39 rfl ?_
          refine f1_V (u' := 0) lX4_157 kX4_capacityOf (mX4_capacityOf hC hI (by assumption)) dX4_allowsSize_40 rfl rfl rfl rfl rfl rfl rfl rfl ?_
          refine g_icmp_le (tgt := 48) dX4_allowsSize_43 (by decide) (fun c43 => ?_) (fun c43 => ?_)
          · rw [iI_add, iI_le (by omega) (by omega) (by omega) (by omega)] at c43
            refine s_inc (v := nI (j + 1)) dX4_allowsSize_48 rfl nI_s rfl rfl rfl ?_
            dsimp only [List.set]
            refine g_goto (tgt := 2) dX4_allowsSize_51 (by decide) ?_
            exact ih (j + 1) (by omega) (s_all_s (P := fun i => !decide (aF A 9 i = (c : Int)) || (!decide (s_st A i = 2) && decide (z + s_gst A i A.2.1 ≤ aF A 7 (aF A 12 i).toNat))) hq (by simp [c19, c28, c43])) (by omega)
          · rw [iI_add, iI_le (by omega) (by omega) (by omega) (by omega), Int.not_le] at c43
            refine g_iconst (v := 0) dX4_allowsSize_46 (by decide) ?_
            refine g_ireturn dX4_allowsSize_47 rfl rfl (by decide) ?_
            exact ⟨by rw [s_all_f (P := fun i => !decide (aF A 9 i = (c : Int)) || (!decide (s_st A i = 2) && decide (z + s_gst A i A.2.1 ≤ aF A 7 (aF A 12 i).toNat))) hlt (by simp [c19, c28, c43])]; rfl, rfl⟩
set_option maxRecDepth 100000 in
theorem mX4_allowsSize {l : Launch} {G : ux_G} {h : ux_H} {c : Nat} {z : Int} {A : Ab} {P : Nat} (hC : rC 0 A h) (hI : Inv P A) (hJ : InvF A) (hc : c < 6) (hz : 0 ≤ z ∧ z ≤ 100) : ux_F l G yX4_allowsSize iX4_allowsSize 6 0 [.ref 0, .int (nI c), .int (iI z)] h (some (.int (if s_all (fun i => !decide (aF A 9 i = (c : Int)) || (!decide (s_st A i = 2) && decide (z + s_gst A i A.2.1 ≤ aF A 7 (aF A 12 i).toNat))) A.2.1 then 1 else 0))) (h) := by
  unfold ux_F
  refine ux_ent (L' := [some (.ref 0), some (.int (nI c)), some (.int (iI z)), none]) kX4_allowsSize rfl rfl rfl rfl ?_
  obtain ⟨i1, i2, i3, i4, i5, i6⟩ := id hI
  refine g_iconst (v := 0) dX4_allowsSize_0 (by decide) ?_
  refine s_i (i := 3) dX4_allowsSize_1 rfl rfl rfl rfl ?_
  dsimp only [List.set]
  exact wX4_allowsSize (l := l) (G := G) hC hI hJ hc hz (A.2.1 + 1) 0 (Nat.zero_le _) rfl (by omega)
set_option maxRecDepth 100000 in
theorem wX4_allowsCapacity {l : Launch} {G : ux_G} {h : ux_H} {c : Nat} {z : Int} {A : Ab} {P : Nat} (hC : rC 0 A h) (hI : Inv P A) (hc : c < 6) (hz : 0 ≤ z ∧ z ≤ 100) : ∀ (n : Nat) (j : Nat), j ≤ A.2.1 → s_all (fun i => !decide (aF A 12 i = (c : Int)) || decide (s_load A i ≤ z)) j = true → A.2.1 - j < n → ux_W l G iX4_allowsCapacity (ux_rm 6 0) (ux_Z G 0 (fun vv h' => vv = some (.int (if s_all (fun i => !decide (aF A 12 i = (c : Int)) || decide (s_load A i ≤ z)) A.2.1 then 1 else 0)) ∧ h' = h) (fun _ _ => False)) 2 [some (.ref 0), some (.int (nI c)), some (.int (iI z)), some (.int (nI j))] [] (h) 0 := by
  intro n
  induction n with
  | zero => intro j hj hq hn; exact absurd hn (Nat.not_lt_zero _)
  | succ n ih =>
    intro j hj hq hn
    obtain ⟨i1, i2, i3, i4, i5, i6⟩ := id hI
    refine g_iload_n dX4_allowsCapacity_2 rfl ?_
    refine g_aload_n dX4_allowsCapacity_3 rfl ?_
    refine g_geti fX4_15 dX4_allowsCapacity_4 rfl rfl ?_
    refine g_top hC.2.1 ?_
    refine g_icmp_ge (tgt := 39) dX4_allowsCapacity_7 (by decide) (fun c7 => ?_) (fun c7 => ?_)
    · have e : j = A.2.1 := by have := xlt_i c7 (by omega) (by omega); omega
      subst e
      refine g_iconst (v := 1) dX4_allowsCapacity_39 (by decide) ?_
      refine g_ireturn dX4_allowsCapacity_40 rfl rfl (by decide) ?_
      exact ⟨by rw [hq]; rfl, rfl⟩
    · have hlt : j < A.2.1 := xnl_i c7 (by omega) (by omega)
      have il := i6 j hlt
      have hr := s_st_r A j
      have lr := s_load_r hI hlt
      refine g_aload_n dX4_allowsCapacity_10 rfl ?_
      refine g_getr (q := 12) fX4_58 dX4_allowsCapacity_11 rfl rfl rfl ?_
      refine g_iload_n dX4_allowsCapacity_14 rfl ?_
      refine f1_SN (u' := 0) lX4_85 kX5_at (mA_l (f := 12) hC i2 (by assumption) rfl) dX4_allowsCapacity_15 rfl rfl rfl rfl rfl rfl ?_
      refine g_iload_n dX4_allowsCapacity_18 rfl ?_
      refine g_icmp_ne (tgt := 33) dX4_allowsCapacity_19 (by decide) (fun c19 => ?_) (fun c19 => ?_)
      · rw [xq (by omega) (by omega) (by omega)] at c19
        refine s_inc (v := nI (j + 1)) dX4_allowsCapacity_33 rfl nI_s rfl rfl rfl ?_
        dsimp only [List.set]
        refine g_goto (tgt := 2) dX4_allowsCapacity_36 (by decide) ?_
        exact ih (j + 1) (by omega) (s_all_s (P := fun i => !decide (aF A 12 i = (c : Int)) || decide (s_load A i ≤ z)) hq (by simp [c19])) (by omega)
      · rw [xq (by omega) (by omega) (by omega)] at c19
        refine g_aload_n dX4_allowsCapacity_22 rfl ?_
        refine g_iload_n dX4_allowsCapacity_23 rfl ?_
        refine f1_V (u' := 0) lX4_154 kX4_loadOf (mX4_loadOf hC hI (by assumption)) dX4_allowsCapacity_24 rfl rfl rfl rfl rfl rfl rfl rfl ?_
        refine g_iload_n dX4_allowsCapacity_27 rfl ?_
        refine g_icmp_le (tgt := 33) dX4_allowsCapacity_28 (by decide) (fun c28 => ?_) (fun c28 => ?_)
        · rw [iI_le (by omega) (by omega) (by omega) (by omega)] at c28
          refine s_inc (v := nI (j + 1)) dX4_allowsCapacity_33 rfl nI_s rfl rfl rfl ?_
          dsimp only [List.set]
          refine g_goto (tgt := 2) dX4_allowsCapacity_36 (by decide) ?_
          exact ih (j + 1) (by omega) (s_all_s (P := fun i => !decide (aF A 12 i = (c : Int)) || decide (s_load A i ≤ z)) hq (by simp [c19, c28])) (by omega)
        · rw [iI_le (by omega) (by omega) (by omega) (by omega), Int.not_le] at c28
          refine g_iconst (v := 0) dX4_allowsCapacity_31 (by decide) ?_
          refine g_ireturn dX4_allowsCapacity_32 rfl rfl (by decide) ?_
          exact ⟨by rw [s_all_f (P := fun i => !decide (aF A 12 i = (c : Int)) || decide (s_load A i ≤ z)) hlt (by simp [c19, c28])]; rfl, rfl⟩
set_option maxRecDepth 100000 in
theorem mX4_allowsCapacity {l : Launch} {G : ux_G} {h : ux_H} {c : Nat} {z : Int} {A : Ab} {P : Nat} (hC : rC 0 A h) (hI : Inv P A) (hc : c < 6) (hz : 0 ≤ z ∧ z ≤ 100) : ux_F l G yX4_allowsCapacity iX4_allowsCapacity 6 0 [.ref 0, .int (nI c), .int (iI z)] h (some (.int (if s_all (fun i => !decide (aF A 12 i = (c : Int)) || decide (s_load A i ≤ z)) A.2.1 then 1 else 0))) (h) := by
  unfold ux_F
  refine ux_ent (L' := [some (.ref 0), some (.int (nI c)), some (.int (iI z)), none]) kX4_allowsCapacity rfl rfl rfl rfl ?_
  obtain ⟨i1, i2, i3, i4, i5, i6⟩ := id hI
  refine g_iconst (v := 0) dX4_allowsCapacity_0 (by decide) ?_
  refine s_i (i := 3) dX4_allowsCapacity_1 rfl rfl rfl rfl ?_
  dsimp only [List.set]
  exact wX4_allowsCapacity (l := l) (G := G) hC hI hc hz (A.2.1 + 1) 0 (Nat.zero_le _) rfl (by omega)
theorem s_find_r {P : Nat} {A : Ab} (hI : Inv P A) (f : Nat) (s v : Int) : -1 ≤ s_find A f s v ∧ s_find A f s v < A.2.1 := by
  unfold s_find
  rcases s_fst_spec (P := fun l => decide (aF A 8 l = s) && decide (aF A f l = v)) (n := A.2.1) with ⟨e, _⟩ | ⟨l, e, h1, _⟩ <;> rw [e] <;> unfold s_oi <;> dsimp only <;> omega
set_option maxRecDepth 100000 in
theorem mX4_allowsRoom {l : Launch} {G : ux_G} {h : ux_H} {i c : Nat} {A : Ab} {P : Nat} (hC : rC 0 A h) (hI : Inv P A) (hi : i < A.2.1) (hc : c < 6) : ux_F l G yX4_allowsRoom iX4_allowsRoom 6 0 [.ref 0, .int (nI i), .int (nI c)] h (some (.int (if (s_find A 12 (aF A 8 i) c = -1 ∨ s_find A 12 (aF A 8 i) c = i) ∧ s_load A i ≤ aF A 7 c then 1 else 0))) (h) := by
  unfold ux_F
  refine ux_ent (L' := [some (.ref 0), some (.int (nI i)), some (.int (nI c)), none]) kX4_allowsRoom rfl rfl rfl rfl ?_
  obtain ⟨i1, i2, i3, i4, i5, i6⟩ := id hI
  have il := i6 i hi
  have lr := s_load_r hI hi
  have cc := i5 c hc
  have fr := s_find_r hI 12 (aF A 8 i) c
  refine g_aload_n dX4_allowsRoom_0 rfl ?_
  refine g_aload_n dX4_allowsRoom_1 rfl ?_
  refine g_getr (q := 8) fX4_46 dX4_allowsRoom_2 rfl rfl rfl ?_
  refine g_iload_n dX4_allowsRoom_5 rfl ?_
  refine f1_SN (u' := 0) lX4_85 kX5_at (mA_l (f := 8) hC i2 (by assumption) rfl) dX4_allowsRoom_6 rfl rfl rfl rfl rfl rfl ?_
  refine g_aload_n dX4_allowsRoom_9 rfl ?_
  refine g_getr (q := 12) fX4_58 dX4_allowsRoom_10 rfl rfl rfl ?_
  refine g_iload_n dX4_allowsRoom_13 rfl ?_
  refine g_top (nI_iI c) ?_
  refine f1_V (u' := 0) lX4_93 kX4_lessonIn (mX4_lessonIn (f := 12) hC hI rfl (by omega) (by omega) (fun i hi => by have := i6 i hi; omega)) dX4_allowsRoom_14 rfl rfl rfl rfl rfl rfl rfl rfl ?_
  refine s_i (i := 3) dX4_allowsRoom_17 rfl rfl rfl rfl ?_
  dsimp only [List.set]
  refine g_iload_n dX4_allowsRoom_18 rfl ?_
  refine g_iconst (v := (-1)) dX4_allowsRoom_19 (by decide) ?_
  refine g_icmp_eq (tgt := 28) dX4_allowsRoom_20 (by decide) (fun c20 => ?_) (fun c20 => ?_)
  · rw [xqm (by omega) (by omega)] at c20
    refine g_aload_n dX4_allowsRoom_28 rfl ?_
    refine g_iload_n dX4_allowsRoom_29 rfl ?_
    refine f1_V (u' := 0) lX4_154 kX4_loadOf (mX4_loadOf hC hI (by assumption)) dX4_allowsRoom_30 rfl rfl rfl rfl rfl rfl rfl rfl ?_
    refine g_aload_n dX4_allowsRoom_33 rfl ?_
    refine g_getr (q := 7) fX4_43 dX4_allowsRoom_34 rfl rfl rfl ?_
    refine g_iload_n dX4_allowsRoom_37 rfl ?_
    refine f1_SN (u' := 0) lX4_85 kX5_at (mA_c (f := 7) hC (by assumption) rfl) dX4_allowsRoom_38 rfl rfl rfl rfl rfl rfl ?_
    refine g_icmp_gt (tgt := 48) dX4_allowsRoom_41 (by decide) (fun c41 => ?_) (fun c41 => ?_)
    · rw [iI_lt (by omega) (by omega) (by omega) (by omega)] at c41
      refine g_iconst (v := 0) dX4_allowsRoom_48 (by decide) ?_
      refine g_ireturn dX4_allowsRoom_49 rfl rfl (by decide) ?_
      refine ⟨?_, rfl⟩
      first | (rw [if_pos (by omega)]) | (rw [if_neg (by omega)])
    · rw [iI_lt (by omega) (by omega) (by omega) (by omega)] at c41
      refine g_iconst (v := 1) dX4_allowsRoom_44 (by decide) ?_
      refine g_goto (tgt := 49) dX4_allowsRoom_45 (by decide) ?_
      refine g_ireturn dX4_allowsRoom_49 rfl rfl (by decide) ?_
      refine ⟨?_, rfl⟩
      first | (rw [if_pos (by omega)]) | (rw [if_neg (by omega)])
  · rw [xqm (by omega) (by omega)] at c20
    refine g_iload_n dX4_allowsRoom_23 rfl ?_
    refine g_iload_n dX4_allowsRoom_24 rfl ?_
    refine g_icmp_ne (tgt := 48) dX4_allowsRoom_25 (by decide) (fun c25 => ?_) (fun c25 => ?_)
    · rw [xq (by omega) (by omega) (by omega)] at c25
      refine g_iconst (v := 0) dX4_allowsRoom_48 (by decide) ?_
      refine g_ireturn dX4_allowsRoom_49 rfl rfl (by decide) ?_
      refine ⟨?_, rfl⟩
      first | (rw [if_pos (by omega)]) | (rw [if_neg (by omega)])
    · rw [xq (by omega) (by omega) (by omega)] at c25
      refine g_aload_n dX4_allowsRoom_28 rfl ?_
      refine g_iload_n dX4_allowsRoom_29 rfl ?_
      refine f1_V (u' := 0) lX4_154 kX4_loadOf (mX4_loadOf hC hI (by assumption)) dX4_allowsRoom_30 rfl rfl rfl rfl rfl rfl rfl rfl ?_
      refine g_aload_n dX4_allowsRoom_33 rfl ?_
      refine g_getr (q := 7) fX4_43 dX4_allowsRoom_34 rfl rfl rfl ?_
      refine g_iload_n dX4_allowsRoom_37 rfl ?_
      refine f1_SN (u' := 0) lX4_85 kX5_at (mA_c (f := 7) hC (by assumption) rfl) dX4_allowsRoom_38 rfl rfl rfl rfl rfl rfl ?_
      refine g_icmp_gt (tgt := 48) dX4_allowsRoom_41 (by decide) (fun c41 => ?_) (fun c41 => ?_)
      · rw [iI_lt (by omega) (by omega) (by omega) (by omega)] at c41
        refine g_iconst (v := 0) dX4_allowsRoom_48 (by decide) ?_
        refine g_ireturn dX4_allowsRoom_49 rfl rfl (by decide) ?_
        refine ⟨?_, rfl⟩
        first | (rw [if_pos (by omega)]) | (rw [if_neg (by omega)])
      · rw [iI_lt (by omega) (by omega) (by omega) (by omega)] at c41
        refine g_iconst (v := 1) dX4_allowsRoom_44 (by decide) ?_
        refine g_goto (tgt := 49) dX4_allowsRoom_45 (by decide) ?_
        refine g_ireturn dX4_allowsRoom_49 rfl rfl (by decide) ?_
        refine ⟨?_, rfl⟩
        first | (rw [if_pos (by omega)]) | (rw [if_neg (by omega)])
set_option maxRecDepth 100000 in
theorem wX4_roomsFreeIn {l : Launch} {G : ux_G} {h : ux_H} {s : Int} {A : Ab} {P : Nat} (hC : rC 0 A h) (hI : Inv P A) (hs : 0 ≤ s ∧ s < 30) : ∀ (n : Nat) (j : Nat), j ≤ 6 → 6 - j < n → ux_W l G iX4_roomsFreeIn (ux_rm 3 0) (ux_Z G 0 (fun vv h' => vv = some (.int (s_mask (fun c => decide (s_find A 12 s c = -1)) 6)) ∧ h' = h) (fun _ _ => False)) 4 [some (.ref 0), some (.int (iI s)), some (.int (s_mask (fun c => decide (s_find A 12 s c = -1)) j)), some (.int (nI j))] [] (h) 0 := by
  intro n
  induction n with
  | zero => intro j hj hn; exact absurd hn (Nat.not_lt_zero _)
  | succ n ih =>
    intro j hj hn
    obtain ⟨i1, i2, i3, i4, i5, i6⟩ := id hI
    refine g_iload_n dX4_roomsFreeIn_4 rfl ?_
    refine g_bipush (v := 6) dX4_roomsFreeIn_5 (by decide) ?_
    refine g_icmp_ge (tgt := 36) dX4_roomsFreeIn_7 (by decide) (fun c7 => ?_) (fun c7 => ?_)
    · have e : j = 6 := by have := xlt_i (a := 6) c7 (by omega) (by omega); omega
      subst e
      refine g_iload_n dX4_roomsFreeIn_36 rfl ?_
      refine g_ireturn dX4_roomsFreeIn_37 rfl rfl (by decide) ?_
      exact ⟨rfl, rfl⟩
    · have hlt : j < 6 := xnl_i (a := 6) c7 (by omega) (by omega)
      have fr := s_find_r hI 12 s j
      refine g_aload_n dX4_roomsFreeIn_10 rfl ?_
      refine g_iload_n dX4_roomsFreeIn_11 rfl ?_
      refine g_aload_n dX4_roomsFreeIn_12 rfl ?_
      refine g_getr (q := 12) fX4_58 dX4_roomsFreeIn_13 rfl rfl rfl ?_
      refine g_iload_n dX4_roomsFreeIn_16 rfl ?_
      refine g_top (nI_iI j) ?_
      refine f1_V (u' := 0) lX4_93 kX4_lessonIn (mX4_lessonIn (f := 12) hC hI rfl (by omega) (by omega) (fun i hi => by have := i6 i hi; omega)) dX4_roomsFreeIn_17 rfl rfl rfl rfl rfl rfl rfl rfl ?_
      refine g_iconst (v := (-1)) dX4_roomsFreeIn_20 (by decide) ?_
      refine g_icmp_ne (tgt := 30) dX4_roomsFreeIn_21 (by decide) (fun c21 => ?_) (fun c21 => ?_)
      · rw [xqm (by omega) (by omega)] at c21
        refine s_inc (v := nI (j + 1)) dX4_roomsFreeIn_30 rfl nI_s rfl rfl rfl ?_
        dsimp only [List.set]
        refine g_goto (tgt := 4) dX4_roomsFreeIn_33 (by decide) ?_
        have e0 : s_mask (fun c => decide (s_find A 12 s c = -1)) (j + 1) = if (fun c => decide (s_find A 12 s c = -1)) j = true then s_mask (fun c => decide (s_find A 12 s c = -1)) j ||| (1 <<< (nI j &&& 31)) else s_mask (fun c => decide (s_find A 12 s c = -1)) j := rfl
        rw [if_neg (by simp [c21])] at e0
        rw [← e0]
        exact ih (j + 1) (by omega) (by omega)
      · rw [xqm (by omega) (by omega)] at c21
        refine g_iload_n dX4_roomsFreeIn_24 rfl ?_
        refine g_iconst (v := 1) dX4_roomsFreeIn_25 (by decide) ?_
        refine g_iload_n dX4_roomsFreeIn_26 rfl ?_
        refine g_ishl dX4_roomsFreeIn_27 ?_
        refine g_ior dX4_roomsFreeIn_28 ?_
        refine s_i (i := 2) dX4_roomsFreeIn_29 rfl rfl rfl rfl ?_
        dsimp only [List.set]
        refine s_inc (v := nI (j + 1)) dX4_roomsFreeIn_30 rfl nI_s rfl rfl rfl ?_
        dsimp only [List.set]
        refine g_goto (tgt := 4) dX4_roomsFreeIn_33 (by decide) ?_
        have e0 : s_mask (fun c => decide (s_find A 12 s c = -1)) (j + 1) = if (fun c => decide (s_find A 12 s c = -1)) j = true then s_mask (fun c => decide (s_find A 12 s c = -1)) j ||| (1 <<< (nI j &&& 31)) else s_mask (fun c => decide (s_find A 12 s c = -1)) j := rfl
        rw [if_pos (by simp [c21])] at e0
        rw [← e0]
        exact ih (j + 1) (by omega) (by omega)
set_option maxRecDepth 100000 in
theorem mX4_roomsFreeIn {l : Launch} {G : ux_G} {h : ux_H} {s : Int} {A : Ab} {P : Nat} (hC : rC 0 A h) (hI : Inv P A) (hs : 0 ≤ s ∧ s < 30) : ux_F l G yX4_roomsFreeIn iX4_roomsFreeIn 3 0 [.ref 0, .int (iI s)] h (some (.int (s_mask (fun c => decide (s_find A 12 s c = -1)) 6))) (h) := by
  unfold ux_F
  refine ux_ent (L' := [some (.ref 0), some (.int (iI s)), none, none]) kX4_roomsFreeIn rfl rfl rfl rfl ?_
  refine g_iconst (v := 0) dX4_roomsFreeIn_0 (by decide) ?_
  refine s_i (i := 2) dX4_roomsFreeIn_1 rfl rfl rfl rfl ?_
  dsimp only [List.set]
  refine g_iconst (v := 0) dX4_roomsFreeIn_2 (by decide) ?_
  refine s_i (i := 3) dX4_roomsFreeIn_3 rfl rfl rfl rfl ?_
  dsimp only [List.set]
  exact wX4_roomsFreeIn (l := l) (G := G) hC hI hs 7 0 (Nat.zero_le _) (by omega)
set_option maxRecDepth 100000 in
theorem mX4_isFreeIn {l : Launch} {G : ux_G} {h : ux_H} {t : Nat} {s : Int} {A : Ab} {P : Nat} (hC : rC 0 A h) (hI : Inv P A) (ht : t < A.1) (hs : 0 ≤ s ∧ s < 30) : ux_F l G yX4_isFreeIn iX4_isFreeIn 3 0 [.ref 0, .int (nI t), .int (iI s)] h (some (.int (if s_free A t s then 1 else 0))) (h) := by
  unfold ux_F
  refine ux_ent (L' := [some (.ref 0), some (.int (nI t)), some (.int (iI s))]) kX4_isFreeIn rfl rfl rfl rfl ?_
  obtain ⟨i1, i2, i3, i4, i5, i6⟩ := id hI
  have fr := s_find_r hI 11 s t
  have fr2 := s_find_r hI 13 s t
  refine g_aload_n dX4_isFreeIn_0 rfl ?_
  refine g_iload_n dX4_isFreeIn_1 rfl ?_
  refine g_iload_n dX4_isFreeIn_2 rfl ?_
  refine f1_V (u' := 0) lX4_89 kX4_isAbsentIn (mX4_isAbsentIn hC hI (by assumption)) dX4_isFreeIn_3 rfl rfl rfl rfl rfl rfl rfl rfl ?_
  refine g_if_ne (tgt := 41) dX4_isFreeIn_6 (by decide) (fun c6 => ?_) (fun c6 => ?_)
  · have q := Decidable.not_not.mp (mt xb_0.mpr c6)
    refine g_iconst (v := 0) dX4_isFreeIn_41 (by decide) ?_
    refine g_ireturn dX4_isFreeIn_42 rfl rfl (by decide) ?_
    exact ⟨by simp [s_free, q], rfl⟩
  · have q := xb_0.mp c6
    refine g_aload_n dX4_isFreeIn_9 rfl ?_
    refine g_iload_n dX4_isFreeIn_10 rfl ?_
    refine g_aload_n dX4_isFreeIn_11 rfl ?_
    refine g_getr (q := 11) fX4_55 dX4_isFreeIn_12 rfl rfl rfl ?_
    refine g_iload_n dX4_isFreeIn_15 rfl ?_
    refine g_top (nI_iI t) ?_
    refine f1_V (u' := 0) lX4_93 kX4_lessonIn (mX4_lessonIn (f := 11) hC hI rfl (by omega) (by omega) (fun i hi => by have := i6 i hi; omega)) dX4_isFreeIn_16 rfl rfl rfl rfl rfl rfl rfl rfl ?_
    refine g_iconst (v := (-1)) dX4_isFreeIn_19 (by decide) ?_
    refine g_icmp_ne (tgt := 41) dX4_isFreeIn_20 (by decide) (fun c20 => ?_) (fun c20 => ?_)
    · rw [xqm (by omega) (by omega)] at c20
      refine g_iconst (v := 0) dX4_isFreeIn_41 (by decide) ?_
      refine g_ireturn dX4_isFreeIn_42 rfl rfl (by decide) ?_
      exact ⟨by simp [s_free, q, c20], rfl⟩
    · rw [xqm (by omega) (by omega)] at c20
      refine g_aload_n dX4_isFreeIn_23 rfl ?_
      refine g_iload_n dX4_isFreeIn_24 rfl ?_
      refine g_aload_n dX4_isFreeIn_25 rfl ?_
      refine g_getr (q := 13) fX4_61 dX4_isFreeIn_26 rfl rfl rfl ?_
      refine g_iload_n dX4_isFreeIn_29 rfl ?_
      refine g_top (nI_iI t) ?_
      refine f1_V (u' := 0) lX4_93 kX4_lessonIn (mX4_lessonIn (f := 13) hC hI rfl (by omega) (by omega) (fun i hi => by have := i6 i hi; omega)) dX4_isFreeIn_30 rfl rfl rfl rfl rfl rfl rfl rfl ?_
      refine g_iconst (v := (-1)) dX4_isFreeIn_33 (by decide) ?_
      refine g_icmp_ne (tgt := 41) dX4_isFreeIn_34 (by decide) (fun c34 => ?_) (fun c34 => ?_)
      · rw [xqm (by omega) (by omega)] at c34
        refine g_iconst (v := 0) dX4_isFreeIn_41 (by decide) ?_
        refine g_ireturn dX4_isFreeIn_42 rfl rfl (by decide) ?_
        exact ⟨by simp [s_free, q, c20, c34], rfl⟩
      · rw [xqm (by omega) (by omega)] at c34
        refine g_iconst (v := 1) dX4_isFreeIn_37 (by decide) ?_
        refine g_goto (tgt := 42) dX4_isFreeIn_38 (by decide) ?_
        refine g_ireturn dX4_isFreeIn_42 rfl rfl (by decide) ?_
        exact ⟨by simp [s_free, q, c20, c34], rfl⟩
set_option maxRecDepth 100000 in
theorem wX4_freePeriods {l : Launch} {G : ux_G} {h : ux_H} {t d : Nat} {A : Ab} {P : Nat} (hC : rC 0 A h) (hI : Inv P A) (ht : t < A.1) (hd : d < 5) : ∀ (n : Nat) (j : Nat), j ≤ 6 → 6 - j < n → ux_W l G iX4_freePeriods (ux_rm 4 0) (ux_Z G 0 (fun vv h' => vv = some (.int (s_mask (fun p => s_free A t ((6 * d + p : Nat) : Int)) 6)) ∧ h' = h) (fun _ _ => False)) 5 [some (.ref 0), some (.int (nI t)), some (.int (nI d)), some (.int (s_mask (fun p => s_free A t ((6 * d + p : Nat) : Int)) j)), some (.int (nI j))] [] (h) 0 := by
  intro n
  induction n with
  | zero => intro j hj hn; exact absurd hn (Nat.not_lt_zero _)
  | succ n ih =>
    intro j hj hn
    obtain ⟨i1, i2, i3, i4, i5, i6⟩ := id hI
    refine g_iload dX4_freePeriods_5 rfl ?_
    refine g_bipush (v := 6) dX4_freePeriods_7 (by decide) ?_
    refine g_icmp_ge (tgt := 40) dX4_freePeriods_9 (by decide) (fun c9 => ?_) (fun c9 => ?_)
    · have e : j = 6 := by have := xlt_i (a := 6) c9 (by omega) (by omega); omega
      subst e
      refine g_iload_n dX4_freePeriods_40 rfl ?_
      refine g_ireturn dX4_freePeriods_41 rfl rfl (by decide) ?_
      exact ⟨rfl, rfl⟩
    · have hlt : j < 6 := xnl_i (a := 6) c9 (by omega) (by omega)
      refine g_aload_n dX4_freePeriods_12 rfl ?_
      refine g_iload_n dX4_freePeriods_13 rfl ?_
      refine g_iload_n dX4_freePeriods_14 rfl ?_
      refine g_bipush (v := 6) dX4_freePeriods_15 (by decide) ?_
      refine g_imul dX4_freePeriods_17 ?_
      refine g_iload dX4_freePeriods_18 rfl ?_
      refine g_iadd dX4_freePeriods_20 ?_
      refine g_top (y := iI ((6 * d + j : Nat) : Int)) (by rw [show (6 : Int32) = nI 6 by decide, pk_mul, nI_add, iI_n, Nat.mul_comm]) ?_
      refine f1_V (u' := 0) lX4_97 kX4_isFreeIn (mX4_isFreeIn hC hI (by assumption) (by omega)) dX4_freePeriods_21 rfl rfl rfl rfl rfl rfl rfl rfl ?_
      refine g_if_eq (tgt := 34) dX4_freePeriods_24 (by decide) (fun c24 => ?_) (fun c24 => ?_)
      · have q := xb_0.mp c24
        refine s_inc (v := nI (j + 1)) dX4_freePeriods_34 rfl nI_s rfl rfl rfl ?_
        dsimp only [List.set]
        refine g_goto (tgt := 5) dX4_freePeriods_37 (by decide) ?_
        have e0 : s_mask (fun p => s_free A t ((6 * d + p : Nat) : Int)) (j + 1) = if (fun p => s_free A t ((6 * d + p : Nat) : Int)) j = true then s_mask (fun p => s_free A t ((6 * d + p : Nat) : Int)) j ||| (1 <<< (nI j &&& 31)) else s_mask (fun p => s_free A t ((6 * d + p : Nat) : Int)) j := rfl
        rw [if_neg q] at e0
        rw [← e0]
        exact ih (j + 1) (by omega) (by omega)
      · have q := Decidable.not_not.mp ((not_congr xb_0).mp c24)
        refine g_iload_n dX4_freePeriods_27 rfl ?_
        refine g_iconst (v := 1) dX4_freePeriods_28 (by decide) ?_
        refine g_iload dX4_freePeriods_29 rfl ?_
        refine g_ishl dX4_freePeriods_31 ?_
        refine g_ior dX4_freePeriods_32 ?_
        refine s_i (i := 3) dX4_freePeriods_33 rfl rfl rfl rfl ?_
        dsimp only [List.set]
        refine s_inc (v := nI (j + 1)) dX4_freePeriods_34 rfl nI_s rfl rfl rfl ?_
        dsimp only [List.set]
        refine g_goto (tgt := 5) dX4_freePeriods_37 (by decide) ?_
        have e0 : s_mask (fun p => s_free A t ((6 * d + p : Nat) : Int)) (j + 1) = if (fun p => s_free A t ((6 * d + p : Nat) : Int)) j = true then s_mask (fun p => s_free A t ((6 * d + p : Nat) : Int)) j ||| (1 <<< (nI j &&& 31)) else s_mask (fun p => s_free A t ((6 * d + p : Nat) : Int)) j := rfl
        rw [if_pos q] at e0
        rw [← e0]
        exact ih (j + 1) (by omega) (by omega)
set_option maxRecDepth 100000 in
theorem mX4_freePeriods {l : Launch} {G : ux_G} {h : ux_H} {t d : Nat} {A : Ab} {P : Nat} (hC : rC 0 A h) (hI : Inv P A) (ht : t < A.1) (hd : d < 5) : ux_F l G yX4_freePeriods iX4_freePeriods 4 0 [.ref 0, .int (nI t), .int (nI d)] h (some (.int (s_mask (fun p => s_free A t ((6 * d + p : Nat) : Int)) 6))) (h) := by
  unfold ux_F
  refine ux_ent (L' := [some (.ref 0), some (.int (nI t)), some (.int (nI d)), none, none]) kX4_freePeriods rfl rfl rfl rfl ?_
  refine g_iconst (v := 0) dX4_freePeriods_0 (by decide) ?_
  refine s_i (i := 3) dX4_freePeriods_1 rfl rfl rfl rfl ?_
  dsimp only [List.set]
  refine g_iconst (v := 0) dX4_freePeriods_2 (by decide) ?_
  refine s_iw dX4_freePeriods_3 rfl rfl rfl ?_
  dsimp only [List.set]
  exact wX4_freePeriods (l := l) (G := G) hC hI ht hd 7 0 (Nat.zero_le _) (by omega)
set_option maxRecDepth 100000 in
theorem mX4_reasonAgainst {l : Launch} {G : ux_G} {h : ux_H} {i t : Nat} {A : Ab} {P : Nat} (hC : rC 0 A h) (hI : Inv P A) (hi : i < A.2.1) (ht : t < A.1) : ux_F l G yX4_reasonAgainst iX4_reasonAgainst 4 0 [.ref 0, .int (nI i), .int (nI t)] h (some (.int (iI (s_bar A i t)))) (h) := by
  unfold ux_F
  refine ux_ent (L' := [some (.ref 0), some (.int (nI i)), some (.int (nI t)), none]) kX4_reasonAgainst rfl rfl rfl rfl ?_
  obtain ⟨i1, i2, i3, i4, i5, i6⟩ := id hI
  have il := i6 i hi
  have tl := i4 t ht
  have fr := s_find_r hI 11 (aF A 8 i) t
  have fr2 := s_find_r hI 13 (aF A 8 i) t
  have cr : s_cnt (fun j => decide (aF A 13 j = (t : Int)) && decide (aF A 8 j / 6 = aF A 8 i / 6)) A.2.1 ≤ 40 := Nat.le_trans (s_cnt_le _ _) i2
  refine g_aload_n dX4_reasonAgainst_0 rfl ?_
  refine g_getr (q := 8) fX4_46 dX4_reasonAgainst_1 rfl rfl rfl ?_
  refine g_iload_n dX4_reasonAgainst_4 rfl ?_
  refine f1_SN (u' := 0) lX4_85 kX5_at (mA_l (f := 8) hC i2 (by assumption) rfl) dX4_reasonAgainst_5 rfl rfl rfl rfl rfl rfl ?_
  refine s_i (i := 3) dX4_reasonAgainst_8 rfl rfl rfl rfl ?_
  dsimp only [List.set]
  refine g_aload_n dX4_reasonAgainst_9 rfl ?_
  refine g_getr (q := 11) fX4_55 dX4_reasonAgainst_10 rfl rfl rfl ?_
  refine g_iload_n dX4_reasonAgainst_13 rfl ?_
  refine f1_SN (u' := 0) lX4_85 kX5_at (mA_l (f := 11) hC i2 (by assumption) rfl) dX4_reasonAgainst_14 rfl rfl rfl rfl rfl rfl ?_
  refine g_iload_n dX4_reasonAgainst_17 rfl ?_
  refine g_icmp_ne (tgt := 23) dX4_reasonAgainst_18 (by decide) (fun c18 => ?_) (fun c18 => ?_)
  · rw [xq (by omega) (by omega) (by omega)] at c18
    refine g_aload_n dX4_reasonAgainst_23 rfl ?_
    refine g_iload_n dX4_reasonAgainst_24 rfl ?_
    refine g_iload_n dX4_reasonAgainst_25 rfl ?_
    refine f1_V (u' := 0) lX4_89 kX4_isAbsentIn (mX4_isAbsentIn hC hI (by assumption)) dX4_reasonAgainst_26 rfl rfl rfl rfl rfl rfl rfl rfl ?_
    refine g_if_eq (tgt := 34) dX4_reasonAgainst_29 (by decide) (fun c29 => ?_) (fun c29 => ?_)
    · have q29 := xb_0.mp c29
      refine g_aload_n dX4_reasonAgainst_34 rfl ?_
      refine g_iload_n dX4_reasonAgainst_35 rfl ?_
      refine g_aload_n dX4_reasonAgainst_36 rfl ?_
      refine g_getr (q := 11) fX4_55 dX4_reasonAgainst_37 rfl rfl rfl ?_
      refine g_iload_n dX4_reasonAgainst_40 rfl ?_
      refine g_top (nI_iI t) ?_
      refine f1_V (u' := 0) lX4_93 kX4_lessonIn (mX4_lessonIn (f := 11) hC hI rfl (by omega) (by omega) (fun i hi => by have := i6 i hi; omega)) dX4_reasonAgainst_41 rfl rfl rfl rfl rfl rfl rfl rfl ?_
      refine g_iconst (v := (-1)) dX4_reasonAgainst_44 (by decide) ?_
      refine g_icmp_eq (tgt := 50) dX4_reasonAgainst_45 (by decide) (fun c45 => ?_) (fun c45 => ?_)
      · rw [xqm (by omega) (by omega)] at c45
        refine g_aload_n dX4_reasonAgainst_50 rfl ?_
        refine g_iload_n dX4_reasonAgainst_51 rfl ?_
        refine g_aload_n dX4_reasonAgainst_52 rfl ?_
        refine g_getr (q := 13) fX4_61 dX4_reasonAgainst_53 rfl rfl rfl ?_
        refine g_iload_n dX4_reasonAgainst_56 rfl ?_
        refine g_top (nI_iI t) ?_
        refine f1_V (u' := 0) lX4_93 kX4_lessonIn (mX4_lessonIn (f := 13) hC hI rfl (by omega) (by omega) (fun i hi => by have := i6 i hi; omega)) dX4_reasonAgainst_57 rfl rfl rfl rfl rfl rfl rfl rfl ?_
        refine g_iconst (v := (-1)) dX4_reasonAgainst_60 (by decide) ?_
        refine g_icmp_eq (tgt := 66) dX4_reasonAgainst_61 (by decide) (fun c61 => ?_) (fun c61 => ?_)
        · rw [xqm (by omega) (by omega)] at c61
          refine g_aload_n dX4_reasonAgainst_66 rfl ?_
          refine g_iload_n dX4_reasonAgainst_67 rfl ?_
          refine g_aload_n dX4_reasonAgainst_68 rfl ?_
          refine g_iload_n dX4_reasonAgainst_69 rfl ?_
          refine f1_V (u' := 0) lX4_108 kX4_dayOf (mX4_dayOf hC hI (by assumption)) dX4_reasonAgainst_70 rfl rfl rfl rfl rfl rfl rfl rfl ?_
          refine f1_V (u' := 0) lX4_104 kX4_coversOn (mX4_coversOn hC hI (by assumption) (by omega)) dX4_reasonAgainst_73 rfl rfl rfl rfl rfl rfl rfl rfl ?_
          refine g_aload_n dX4_reasonAgainst_76 rfl ?_
          refine g_getr (q := 3) fX4_31 dX4_reasonAgainst_77 rfl rfl rfl ?_
          refine g_iload_n dX4_reasonAgainst_80 rfl ?_
          refine f1_SN (u' := 0) lX4_85 kX5_at (mA_t (f := 3) hC i1 (by assumption) rfl) dX4_reasonAgainst_81 rfl rfl rfl rfl rfl rfl ?_
          refine g_icmp_lt (tgt := 91) dX4_reasonAgainst_84 (by decide) (fun c84 => ?_) (fun c84 => ?_)
          · rw [nI_iI, iI_lt (by omega) (by omega) (by omega) (by omega)] at c84
            refine g_iconst (v := 0) dX4_reasonAgainst_91 (by decide) ?_
            refine g_ireturn dX4_reasonAgainst_92 rfl rfl (by decide) ?_
            refine ⟨?_, rfl⟩
            have ec : s_con A t (aF A 8 i / 6) = s_cnt (fun j => decide (aF A 13 j = (t : Int)) && decide (aF A 8 j / 6 = aF A 8 i / 6)) A.2.1 := rfl
            rw [← ec] at c84
            unfold s_bar
            simp only [q29, c18, c45, c61, if_true, if_false, ne_eq, not_true_eq_false, not_false_eq_true, Bool.false_eq_true]
            first | rfl | (rw [if_pos (by omega)]; rfl) | (rw [if_neg (by omega)]; rfl)
          · rw [nI_iI, iI_lt (by omega) (by omega) (by omega) (by omega)] at c84
            refine g_iconst (v := 5) dX4_reasonAgainst_87 (by decide) ?_
            refine g_goto (tgt := 92) dX4_reasonAgainst_88 (by decide) ?_
            refine g_ireturn dX4_reasonAgainst_92 rfl rfl (by decide) ?_
            refine ⟨?_, rfl⟩
            have ec : s_con A t (aF A 8 i / 6) = s_cnt (fun j => decide (aF A 13 j = (t : Int)) && decide (aF A 8 j / 6 = aF A 8 i / 6)) A.2.1 := rfl
            rw [← ec] at c84
            unfold s_bar
            simp only [q29, c18, c45, c61, if_true, if_false, ne_eq, not_true_eq_false, not_false_eq_true, Bool.false_eq_true]
            first | rfl | (rw [if_pos (by omega)]; rfl) | (rw [if_neg (by omega)]; rfl)
        · rw [xqm (by omega) (by omega)] at c61
          refine g_iconst (v := 4) dX4_reasonAgainst_64 (by decide) ?_
          refine g_ireturn dX4_reasonAgainst_65 rfl rfl (by decide) ?_
          refine ⟨?_, rfl⟩
          have ec : s_con A t (aF A 8 i / 6) = s_cnt (fun j => decide (aF A 13 j = (t : Int)) && decide (aF A 8 j / 6 = aF A 8 i / 6)) A.2.1 := rfl
          skip
          unfold s_bar
          simp only [q29, c18, c45, c61, if_true, if_false, ne_eq, not_true_eq_false, not_false_eq_true, Bool.false_eq_true]
          first | rfl | (rw [if_pos (by omega)]; rfl) | (rw [if_neg (by omega)]; rfl)
      · rw [xqm (by omega) (by omega)] at c45
        refine g_iconst (v := 3) dX4_reasonAgainst_48 (by decide) ?_
        refine g_ireturn dX4_reasonAgainst_49 rfl rfl (by decide) ?_
        refine ⟨?_, rfl⟩
        have ec : s_con A t (aF A 8 i / 6) = s_cnt (fun j => decide (aF A 13 j = (t : Int)) && decide (aF A 8 j / 6 = aF A 8 i / 6)) A.2.1 := rfl
        skip
        unfold s_bar
        simp only [q29, c18, c45, if_true, if_false, ne_eq, not_true_eq_false, not_false_eq_true, Bool.false_eq_true]
        first | rfl | (rw [if_pos (by omega)]; rfl) | (rw [if_neg (by omega)]; rfl)
    · have q29 := Decidable.not_not.mp ((not_congr xb_0).mp c29)
      refine g_iconst (v := 2) dX4_reasonAgainst_32 (by decide) ?_
      refine g_ireturn dX4_reasonAgainst_33 rfl rfl (by decide) ?_
      refine ⟨?_, rfl⟩
      have ec : s_con A t (aF A 8 i / 6) = s_cnt (fun j => decide (aF A 13 j = (t : Int)) && decide (aF A 8 j / 6 = aF A 8 i / 6)) A.2.1 := rfl
      skip
      unfold s_bar
      simp only [q29, c18, if_true, if_false, ne_eq, not_true_eq_false, not_false_eq_true, Bool.false_eq_true]
      first | rfl | (rw [if_pos (by omega)]; rfl) | (rw [if_neg (by omega)]; rfl)
  · rw [xq (by omega) (by omega) (by omega)] at c18
    refine g_iconst (v := 1) dX4_reasonAgainst_21 (by decide) ?_
    refine g_ireturn dX4_reasonAgainst_22 rfl rfl (by decide) ?_
    refine ⟨?_, rfl⟩
    have ec : s_con A t (aF A 8 i / 6) = s_cnt (fun j => decide (aF A 13 j = (t : Int)) && decide (aF A 8 j / 6 = aF A 8 i / 6)) A.2.1 := rfl
    skip
    unfold s_bar
    simp only [c18, if_true, if_false, ne_eq, not_true_eq_false, not_false_eq_true, Bool.false_eq_true]
    first | rfl | (rw [if_pos (by omega)]; rfl) | (rw [if_neg (by omega)]; rfl)
set_option maxRecDepth 100000 in
theorem mX4_isBetterFor {l : Launch} {G : ux_G} {h : ux_H} {i t o : Nat} {A : Ab} {P : Nat} (hC : rC 0 A h) (hI : Inv P A) (hi : i < A.2.1) (ht : t < A.1) (ho : o < A.1) : ux_F l G yX4_isBetterFor iX4_isBetterFor 5 0 [.ref 0, .int (nI i), .int (nI t), .int (nI o)] h (some (.int (if s_btr A i t o then 1 else 0))) (h) := by
  unfold ux_F
  refine ux_ent (L' := [some (.ref 0), some (.int (nI i)), some (.int (nI t)), some (.int (nI o)), none]) kX4_isBetterFor rfl rfl rfl rfl ?_
  obtain ⟨i1, i2, i3, i4, i5, i6⟩ := id hI
  have tl := i4 t ht
  have ol := i4 o ho
  have w1 := s_worth_r A i t
  have w2 := s_worth_r A i o
  have s1 := s_share_r hI ht (p := aF A 4 t + s_worth A i t) (B := 10000006) (by omega) (by omega)
  have s2 := s_share_r hI ho (p := aF A 4 o + s_worth A i o) (B := 10000006) (by omega) (by omega)
  refine g_aload_n dX4_isBetterFor_0 rfl ?_
  refine g_iload_n dX4_isBetterFor_1 rfl ?_
  refine g_aload_n dX4_isBetterFor_2 rfl ?_
  refine g_getr (q := 10) fX4_52 dX4_isBetterFor_3 rfl rfl rfl ?_
  refine g_iload_n dX4_isBetterFor_6 rfl ?_
  refine f1_SN (u' := 0) lX4_85 kX5_at (mA_l (f := 10) hC i2 (by assumption) rfl) dX4_isBetterFor_7 rfl rfl rfl rfl rfl rfl ?_
  refine f1_V (u' := 0) lX4_117 kX4_hasSubject (mX4_hasSubject hC hI (by assumption)) dX4_isBetterFor_10 rfl rfl rfl rfl rfl rfl rfl rfl ?_
  refine s_iw dX4_isBetterFor_13 rfl rfl rfl ?_
  dsimp only [List.set]
  refine g_iload dX4_isBetterFor_15 rfl ?_
  refine g_aload_n dX4_isBetterFor_17 rfl ?_
  refine g_iload_n dX4_isBetterFor_18 rfl ?_
  refine g_aload_n dX4_isBetterFor_19 rfl ?_
  refine g_getr (q := 10) fX4_52 dX4_isBetterFor_20 rfl rfl rfl ?_
  refine g_iload_n dX4_isBetterFor_23 rfl ?_
  refine f1_SN (u' := 0) lX4_85 kX5_at (mA_l (f := 10) hC i2 (by assumption) rfl) dX4_isBetterFor_24 rfl rfl rfl rfl rfl rfl ?_
  refine f1_V (u' := 0) lX4_117 kX4_hasSubject (mX4_hasSubject hC hI (by assumption)) dX4_isBetterFor_27 rfl rfl rfl rfl rfl rfl rfl rfl ?_
  refine g_icmp_eq (tgt := 36) dX4_isBetterFor_30 (by decide) (fun c30 => ?_) (fun c30 => ?_)
  · refine g_aload_n dX4_isBetterFor_36 rfl ?_
    refine g_iload_n dX4_isBetterFor_37 rfl ?_
    refine g_iload_n dX4_isBetterFor_38 rfl ?_
    refine f1_V (u' := 0) lX4_166 kX4_shareWith (mX4_shareWith hC hI (by assumption) (by assumption)) dX4_isBetterFor_39 rfl rfl rfl rfl rfl rfl rfl rfl ?_
    refine g_aload_n dX4_isBetterFor_42 rfl ?_
    refine g_iload_n dX4_isBetterFor_43 rfl ?_
    refine g_iload_n dX4_isBetterFor_44 rfl ?_
    refine f1_V (u' := 0) lX4_166 kX4_shareWith (mX4_shareWith hC hI (by assumption) (by assumption)) dX4_isBetterFor_45 rfl rfl rfl rfl rfl rfl rfl rfl ?_
    refine g_icmp_ge (tgt := 55) dX4_isBetterFor_48 (by decide) (fun c48 => ?_) (fun c48 => ?_)
    · rw [iI_le (by omega) (by omega) (by omega) (by omega)] at c48
      refine g_iconst (v := 0) dX4_isBetterFor_55 (by decide) ?_
      refine g_ireturn dX4_isBetterFor_56 rfl rfl (by decide) ?_
      refine ⟨?_, rfl⟩
      have he : s_has A t i = s_has A o i := by unfold s_has; cases e1 : s_bit (aF A 1 t) (aF A 10 i) <;> cases e2 : s_bit (aF A 1 o) (aF A 10 i) <;> simp [e1, e2] at c30 <;> rfl
      unfold s_btr
      rw [if_pos he]
      have es : s_shw A i t = s_share A t (aF A 4 t + s_worth A i t) := rfl
      have eo : s_shw A i o = s_share A o (aF A 4 o + s_worth A i o) := rfl
      rw [es, eo]
      first | (rw [decide_eq_true (by omega)]; rfl) | (rw [decide_eq_false (by omega)]; rfl)
    · rw [iI_le (by omega) (by omega) (by omega) (by omega)] at c48
      refine g_iconst (v := 1) dX4_isBetterFor_51 (by decide) ?_
      refine g_goto (tgt := 56) dX4_isBetterFor_52 (by decide) ?_
      refine g_ireturn dX4_isBetterFor_56 rfl rfl (by decide) ?_
      refine ⟨?_, rfl⟩
      have he : s_has A t i = s_has A o i := by unfold s_has; cases e1 : s_bit (aF A 1 t) (aF A 10 i) <;> cases e2 : s_bit (aF A 1 o) (aF A 10 i) <;> simp [e1, e2] at c30 <;> rfl
      unfold s_btr
      rw [if_pos he]
      have es : s_shw A i t = s_share A t (aF A 4 t + s_worth A i t) := rfl
      have eo : s_shw A i o = s_share A o (aF A 4 o + s_worth A i o) := rfl
      rw [es, eo]
      first | (rw [decide_eq_true (by omega)]; rfl) | (rw [decide_eq_false (by omega)]; rfl)
  · refine g_iload dX4_isBetterFor_33 rfl ?_
    refine g_ireturn dX4_isBetterFor_35 rfl (by cases s_bit (aF A 1 t) (aF A 10 i) <;> rfl) (by decide) ?_
    refine ⟨?_, rfl⟩
    have hne : s_has A t i ≠ s_has A o i := fun e => c30 (by rw [show s_bit (aF A 1 t) (aF A 10 i) = s_has A t i from rfl, e]; rfl)
    unfold s_btr
    rw [if_neg hne]
    rfl
