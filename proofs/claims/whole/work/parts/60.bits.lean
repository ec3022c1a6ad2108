/-! Bits of an absence. -/
theorem x_sm : ∀ k, k < 30 → (nI k &&& 31).toBitVec.smod 32 = BitVec.ofNat 32 k := by decide +kernel
theorem x_tn : ∀ k, k < 30 → (BitVec.ofNat 32 k).toNat = k := by decide +kernel
theorem x_sl : ∀ s, s < 30 → ∀ k, k < 30 → ((1 : Int32) <<< (nI s &&& 31)).toBitVec.getLsbD k = decide (k = s) := by decide +kernel
theorem x_sn : ∀ s, s < 30 → ((1 : Int32) <<< (nI s &&& 31)).toBitVec.toNat < 2 ^ 30 := by decide +kernel
theorem x_bitB (X : Int32) {k : Nat} (hk : k < 30) : (X >>> (nI k &&& 31) &&& 1 = 0) ↔ X.toBitVec.getLsbD k = false := by
  rw [← Int32.toBitVec_inj, Int32.toBitVec_and, Int32.toBitVec_shiftRight, x_sm k hk, BitVec.sshiftRight_eq', x_tn k hk]
  have one : (1 : Int32).toBitVec = 1#32 := rfl
  have zero : (0 : Int32).toBitVec = 0#32 := rfl
  rw [one, zero]
  have g0 : (X.toBitVec.sshiftRight k).getLsbD 0 = X.toBitVec.getLsbD k := by
    rw [BitVec.getLsbD_sshiftRight]
    simp
    omega
  constructor
  · intro h
    have := congrArg (fun b => b.getLsbD 0) h
    simp only [BitVec.getLsbD_and, g0] at this
    simpa using this
  · intro h
    apply BitVec.eq_of_getLsbD_eq
    intro i hi
    rw [BitVec.getLsbD_and]
    by_cases e : i = 0
    · subst e
      rw [g0, h]
      simp
    · have : (1#32).getLsbD i = false := by simp [BitVec.getLsbD_one, e]
      rw [this]
      simp
theorem s_bitB {x : Int} {k : Nat} (hk : k < 30) : s_bit x k = (iI x).toBitVec.getLsbD k := by
  unfold s_bit
  rw [iI_n]
  have := x_bitB (iI x) hk
  cases e : (iI x).toBitVec.getLsbD k
  · rw [decide_eq_false]
    exact fun y => y (this.mpr e)
  · rw [decide_eq_true]
    intro y
    rw [this.mp y] at e
    cases e
theorem s_flipB (x : Int) (s : Int) : iI (s_flip x s) = iI x ^^^ ((1 : Int32) <<< (iI s &&& 31)) := (iI_of _).symm
theorem s_bit_flip {x : Int} {s k : Nat} (hs : s < 30) (hk : k < 30) : s_bit (s_flip x s) k = if k = s then !(s_bit x k) else s_bit x k := by
  rw [s_bitB hk, s_bitB hk, s_flipB, iI_n, Int32.toBitVec_xor, BitVec.getLsbD_xor, x_sl s hs k hk]
  by_cases e : k = s
  · rw [if_pos e, decide_eq_true e, Bool.xor_true]
  · rw [if_neg e, decide_eq_false e, Bool.xor_false]
theorem s_flip_r {x : Int} {s : Nat} (hx : 0 ≤ x ∧ x < 1073741824) (hs : s < 30) : 0 ≤ s_flip x s ∧ s_flip x s < 1073741824 := by
  have e1 : (iI x).toBitVec.toNat < 2 ^ 30 := by
    obtain ⟨n, rfl⟩ : ∃ n : Nat, x = n := ⟨x.toNat, by omega⟩
    rw [iI_n]
    show (BitVec.ofNat 32 n).toNat < 2 ^ 30
    rw [BitVec.toNat_ofNat, Nat.mod_eq_of_lt (by omega)]
    omega
  have e2 : (iI x ^^^ ((1 : Int32) <<< (nI s &&& 31))).toBitVec.toNat < 2 ^ 30 := by
    rw [Int32.toBitVec_xor, BitVec.toNat_xor]
    exact Nat.xor_lt_two_pow e1 (x_sn s hs)
  unfold s_flip
  rw [iI_n]
  have e3 : (iI x ^^^ ((1 : Int32) <<< (nI s &&& 31))).toInt = ((iI x ^^^ ((1 : Int32) <<< (nI s &&& 31))).toBitVec.toNat : Int) := by
    show BitVec.toInt _ = _
    rw [BitVec.toInt_eq_toNat_cond, if_pos (by omega)]
  rw [e3]
  omega
