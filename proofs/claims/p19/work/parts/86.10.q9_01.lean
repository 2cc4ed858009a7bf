section MCL
variable {T : Nat → Int} {n p c : Nat} {p0 i9 i10 i11 : Int32} {a1 a20 a21 a22 : Nat → Int32}
theorem must1 {w : Int32} (h : (F_m12_here i9 i10 a1).toInt = w.toInt) : F_m12_must w i9 i10 i11 a1 = (i9 + 1, i11) := by
  rw [E_m12_must, if_pos h]
theorem must0 {w : Int32} (h : ¬ (F_m12_here i9 i10 a1).toInt = w.toInt) : F_m12_must w i9 i10 i11 a1 = (i9 + 1, F_m12_fails 1 i9 i11) := by
  rw [E_m12_must, if_neg h]
/-- behind a FORM: = and a number -/
theorem m_mustB (hT : TXT T n) (hx : TXM T n i10 a1) (hg : i11.toInt = 0) (h0 : p0.toInt = (c : Int)) (hy : i9.toInt = (p : Int)) (hp : p < n) {k : Int32} :
    Y5 (if T (p + 1) ≠ 61 then (-1000 - ((p + 1 : Nat) : Int), p + 1) else spO T 79 (p + 2)) i11 c a20 a21 a22 (fun b0 b1 b2 => b0 = a20 ∧ (b1 c).toInt = k.toInt ∧ (b2 c).toInt = (spN T 79 (p + 2)).2.2) (f_m12_readsMust_j55 p0 i10 a1 a21 a22 a20 i9 i11 k p0) := by
  have h160 := hT.1
  have hy1 := suc_of hy (by omega)
  have q1 := hr_of hT hx hy1
  have c61 : (61 : Int32).toInt = 61 := by decide
  have c79 : (79 : Int32).toInt = 79 := by decide
  have e1 := c1
  rw [E_m12_readsMust_j55, nc h0, good1 hg, if_neg n10]
  by_cases w : T (p + 1) = 61
  · have hpn := T_in hT (p := p + 1) (by omega)
    have hy2 : (i9 + 1 + 1).toInt = ((p + 2 : Nat) : Int) := suc_of hy1 (by omega)
    rw [must1 (by omega), if_neg (fun z => z w)]
    dsimp only
    rw [good1 hg, if_neg n10]
    have N := mnum (p0 := 79) hT hx hy2 (by omega) (by rw [c79]; decide) hg
    rw [c79] at N
    refine ⟨?_, Sm_r, Sm_u, Sm_u⟩
    rcases N with ⟨m1, m2, m3, m4⟩ | ⟨m1, m2⟩
    · refine Or.inr ⟨m1, m3, eq_of_toInt (by show (F_m12_readsNumber 79 (i9 + 1 + 1) i10 i11 a1).2.2.toInt = _; omega), rfl, ?_, ?_⟩
      · show (upd a21 c k c).toInt = _; rw [upd_s]
      · show (upd a22 c _ c).toInt = _; rw [upd_s]; exact m2
    · exact Or.inl ⟨m1, m2⟩
  · have f1 := fl0 (f := 1) (a := i9 + 1) hg (by omega) (by omega)
    rw [must0 (by omega), if_pos w]
    dsimp only
    rw [good0 (by omega), if_pos y00]
    exact ⟨Or.inl ⟨by show -1000 - ((p + 1 : Nat) : Int) < 0; omega, by show (F_m12_fails 1 (i9 + 1) i11).toInt = -1000 - ((p + 1 : Nat) : Int); omega⟩, Sm_r, Sm_u, Sm_r⟩
end MCL
