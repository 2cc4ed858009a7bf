/-! bits of whole numbers -/
def bitL (x : Int64) (k : Nat) : Bool := x.toBitVec.getLsbD k
def bitI (x : Int32) (k : Nat) : Bool := x.toBitVec.getLsbD k
theorem sh64 : ∀ k : Fin 64, ((1 : Int64) <<< ((Int32.ofInt (k.1 : Int)).toInt64 &&& 63)).toBitVec = BitVec.twoPow 64 k.1 := by decide +kernel
theorem sh32 : ∀ k : Fin 32, ((1 : Int32) <<< (Int32.ofInt (k.1 : Int) &&& 31)).toBitVec = BitVec.twoPow 32 k.1 := by decide +kernel
theorem of_nn {y : Int32} (h : 0 ≤ y.toInt) : Int32.ofInt ((y.toInt.toNat : Nat) : Int) = y := by
  rw [Int.toNat_of_nonneg h, Int32.ofInt_toInt]
theorem sh64_at {y : Int32} (h0 : 0 ≤ y.toInt) (h1 : y.toInt < 64) : ((1 : Int64) <<< (y.toInt64 &&& 63)).toBitVec = BitVec.twoPow 64 y.toInt.toNat := by
  have h : ((1 : Int64) <<< ((Int32.ofInt ((y.toInt.toNat : Nat) : Int)).toInt64 &&& 63)).toBitVec = BitVec.twoPow 64 y.toInt.toNat := sh64 ⟨y.toInt.toNat, by omega⟩
  rw [of_nn h0] at h
  exact h
theorem sh32_at {y : Int32} (h0 : 0 ≤ y.toInt) (h1 : y.toInt < 32) : ((1 : Int32) <<< (y &&& 31)).toBitVec = BitVec.twoPow 32 y.toInt.toNat := by
  have h : ((1 : Int32) <<< (Int32.ofInt ((y.toInt.toNat : Nat) : Int) &&& 31)).toBitVec = BitVec.twoPow 32 y.toInt.toNat := sh32 ⟨y.toInt.toNat, by omega⟩
  rw [of_nn h0] at h
  exact h
theorem bitL_or (x z : Int64) (k : Nat) : bitL (x ||| z) k = (bitL x k || bitL z k) := BitVec.getLsbD_or
theorem bitL_sh {y : Int32} (h0 : 0 ≤ y.toInt) (h1 : y.toInt < 64) (k : Nat) : bitL ((1 : Int64) <<< (y.toInt64 &&& 63)) k = decide (y.toInt.toNat = k) := by
  unfold bitL
  rw [sh64_at h0 h1, BitVec.getLsbD_twoPow]
  simp only [show y.toInt.toNat < 64 by omega, decide_true, Bool.true_and]
theorem andL_pow {x : Int64} {y : Int32} (h0 : 0 ≤ y.toInt) (h1 : y.toInt < 64) : x &&& ((1 : Int64) <<< (y.toInt64 &&& 63)) = 0 ↔ bitL x y.toInt.toNat = false := by
  have e : (x &&& ((1 : Int64) <<< (y.toInt64 &&& 63))).toBitVec = x.toBitVec &&& BitVec.twoPow 64 y.toInt.toNat := by rw [Int64.toBitVec_and, sh64_at h0 h1]
  have z : (0 : Int64).toBitVec = 0#64 := rfl
  constructor
  · intro h
    have h2 := congrArg (fun b : Int64 => b.toBitVec.getLsbD y.toInt.toNat) h
    simp only [e, z, BitVec.getLsbD_and, BitVec.getLsbD_twoPow, BitVec.getLsbD_zero, show y.toInt.toNat < 64 by omega, decide_true, Bool.and_true] at h2
    exact h2
  · intro h
    apply Int64.toBitVec_inj.mp
    rw [e, z]
    apply BitVec.eq_of_getLsbD_eq
    intro j hj
    rw [BitVec.getLsbD_and, BitVec.getLsbD_twoPow, BitVec.getLsbD_zero]
    by_cases q : y.toInt.toNat = j
    · subst q
      rw [show x.toBitVec.getLsbD y.toInt.toNat = false from h, Bool.false_and]
    · rw [decide_eq_false q, Bool.and_false, Bool.and_false]
theorem lg0 (x : Int64) : (lg_cmp x 0).toInt = 0 ↔ x = 0 := by
  unfold lg_cmp
  by_cases g : x > 0
  · rw [if_pos g]
    exact ⟨fun q => absurd q (by decide), fun q => absurd g (by rw [q]; decide)⟩
  · rw [if_neg g]
    by_cases h : x = 0
    · rw [if_pos h]; exact ⟨fun _ => h, fun _ => rfl⟩
    · rw [if_neg h]; exact ⟨fun q => absurd q (by decide), fun q => absurd q h⟩
