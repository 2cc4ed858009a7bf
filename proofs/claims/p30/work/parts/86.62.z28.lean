theorem RA_0 : RA (fun _ => 0) (fun _ => 0) := by
  intro a b _ _
  have e : bitL 0 b = false := by
    unfold bitL
    rw [show (0 : Int64).toBitVec = 0#64 from rfl, BitVec.getLsbD_zero]
  rw [show bitL ((fun _ => 0 : Nat → Int64) a) b = bitL 0 b from rfl, e]
  rfl
