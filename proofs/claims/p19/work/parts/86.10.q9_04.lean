section MCL2
variable {T : Nat → Int} {n p q c j : Nat} {i6 i9 i10 i11 i12 i14 i15 i16 i17 v l9 l11 : Int32} {a1 a19 a20 a21 a22 a27 b9 b0 b1 b2 : Nat → Int32}
/-- behind what a clause says: no condition -/
theorem j30_no (h : l11.toInt = 0) (hv : v.toInt ≠ 119) (hv2 : v.toInt ≠ 115) : f_m12_clause_j30 i10 i12 i14 i15 i16 i17 a1 a27 v b9 l9 l11 b0 b1 b2 = (l9, l11, i12 + 1, i14, i15, i16, i17, b9, b0, b1, b2, a27) := by
  rw [E_m12_clause_j30, good1 h, if_neg n10]
  split
  · rfl
  · first
    | rfl
    | rw [if_neg hv, if_pos hv2]
theorem j30_tail (hT : TXT T n) (hx : TXM T n i10 a1) (h : l11.toInt = 0) (hv : v.toInt = 119 ∨ v.toInt = 115) (hy : l9.toInt = (q : Int)) (hq : q ≤ n) (hj : i12.toInt = (j : Int)) (hj2 : j < 16) {t : M12} (et : t = f_m12_clause_j30 i10 i12 i14 i15 i16 i17 a1 a27 v b9 l9 l11 b0 b1 b2) :
    (((spT T q).1 < 0 ∧ t.2.1.toInt = (spT T q).1) ∨ ((spT T q).1 = 0 ∧ t.1.toInt = ((spT T q).2 : Int) ∧ t.2.1.toInt = 0 ∧ t.2.2.1.toInt = ((j + 1 : Nat) : Int))) ∧ t.2.2.2.2.2.2.2.1 = b9 ∧ t.2.2.2.2.2.2.2.2.1 = b0 ∧ t.2.2.2.2.2.2.2.2.2.1 = b1 ∧ t.2.2.2.2.2.2.2.2.2.2.1 = b2 := by
  have hr := hr_of hT hx hy
  have hj1 := suc_of hj (by omega)
  subst et
  rw [E_m12_clause_j30, good1 h, if_neg n10]
  unfold spT
  by_cases w : T q = 40
  · have C := m_condition (i17 := i17) (a := a27) hT hx h hy w
    have e : (if v.toInt = 119 then f_m12_clause_j75 i10 i12 i17 a1 a27 b9 l9 l11 b0 b1 b2 else (if v.toInt ≠ 115 then (l9, l11, (i12 + (1 : Int32)), i14, i15, i16, i17, b9, b0, b1, b2, a27) else f_m12_clause_j75 i10 i12 i17 a1 a27 b9 l9 l11 b0 b1 b2)) = f_m12_clause_j75 i10 i12 i17 a1 a27 b9 l9 l11 b0 b1 b2 := by
      by_cases w1 : v.toInt = 119
      · rw [if_pos w1]
      · rw [if_neg w1, if_neg (by omega)]
    rw [if_pos w, if_neg (show ¬ (F_m12_here l9 i10 a1).toInt ≠ 40 by omega), e, E_m12_clause_j75]
    refine ⟨?_, rfl, rfl, rfl, rfl⟩
    rcases C with C | ⟨C1, C2, C3⟩
    · exact Or.inl C
    · exact Or.inr ⟨C1, C2, C3, hj1⟩
  · rw [if_neg w, if_pos (show (F_m12_here l9 i10 a1).toInt ≠ 40 by omega)]
    exact ⟨Or.inr ⟨rfl, hy, h, hj1⟩, rfl, rfl, rfl, rfl⟩
end MCL2
