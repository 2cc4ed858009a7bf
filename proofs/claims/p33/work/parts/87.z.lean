theorem RM_0 : RM (fun _ => 0) (fun _ => 0) (fun _ => 0) (fun _ => 0) := by
  intro t _
  have e : ∀ k, bitI 0 k = false := fun k => by
    unfold bitI
    rw [show (0 : Int32).toBitVec = 0#32 from rfl, BitVec.getLsbD_zero]
  refine ⟨rfl, fun k => ?_, fun k h => ?_, fun k _ => e k⟩
  · show bitI 0 k = (bitI 0 k && !bitI 0 k)
    rw [e]; rfl
  · have h2 : bitI 0 k = true := h
    rw [e] at h2; cases h2
