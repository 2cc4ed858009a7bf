section MCL
variable {T : Nat → Int} {n p c : Nat} {p0 i9 i10 i11 : Int32} {a1 a20 a21 a22 : Nat → Int32}
end MCL
abbrev M12 := Int32 × Int32 × Int32 × Int32 × Int32 × Int32 × Int32 × (Nat → Int32) × (Nat → Int32) × (Nat → Int32) × (Nat → Int32) × (Nat → Int32)
/-- what the reference keeps of a clause -/
def MD (T : Nat → Int) (p c : Nat) (b0 b1 b2 : Nat → Int32) : Prop :=
  (T p = 119 → (b0 c).toInt = dS T p ∧ (b1 c).toInt = (if dG T p = 42 then -1 else dG T p - 48) ∧ (b2 c).toInt = dV T p) ∧ (T p = 107 → (b0 c).toInt = T (p + 1) - 48 ∧ (b1 c).toInt = T (p + 2) - 48 ∧ (b2 c).toInt = T (p + 3) - 48) ∧ (T p = 118 → (b0 c).toInt = dS T p ∧ (b1 c).toInt = dV T p) ∧ (T p = 111 → (b0 c).toInt = dV T p)
def YC (T : Nat → Int) (j p c : Nat) (f9 f0 f1 f2 : Nat → Int32) (t : M12) : Prop :=
  (((spCl T j p).1 < 0 ∧ t.2.1.toInt = (spCl T j p).1) ∨ ((spCl T j p).1 = 0 ∧ t.1.toInt = ((spCl T j p).2 : Int) ∧ t.2.1.toInt = 0 ∧ t.2.2.1.toInt = ((j + 1 : Nat) : Int) ∧ (t.2.2.2.2.2.2.2.1 c).toInt = T p ∧ MD T p c t.2.2.2.2.2.2.2.2.1 t.2.2.2.2.2.2.2.2.2.1 t.2.2.2.2.2.2.2.2.2.2.1)) ∧
  Sm c f9 t.2.2.2.2.2.2.2.1 ∧ Sm c f0 t.2.2.2.2.2.2.2.2.1 ∧ Sm c f1 t.2.2.2.2.2.2.2.2.2.1 ∧ Sm c f2 t.2.2.2.2.2.2.2.2.2.2.1
section MCL2
variable {T : Nat → Int} {n p q c j : Nat} {i6 i9 i10 i11 i12 i14 i15 i16 i17 v l9 l11 : Int32} {a1 a19 a20 a21 a22 a27 b9 b0 b1 b2 : Nat → Int32}
theorem j30_bad (h : l11.toInt ≠ 0) : f_m12_clause_j30 i10 i12 i14 i15 i16 i17 a1 a27 v b9 l9 l11 b0 b1 b2 = (l9, l11, i12 + 1, i14, i15, i16, i17, b9, b0, b1, b2, a27) := by
  rw [E_m12_clause_j30, good0 h, if_pos y00]
end MCL2
