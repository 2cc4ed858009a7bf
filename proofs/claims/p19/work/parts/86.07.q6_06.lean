theorem spC_ok {T : Nat → Int} {n p : Nat} (hT : TXT T n) (hp : p < n) : OKat n p (spC T p) := by
  have h160 := hT.1
  unfold spC
  rcases sp_ok hT 1000 3 1 (p + 1) (by omega) (by omega) (by omega) with ⟨s1, s2, s3⟩ | s
  · rw [seq_y s1]
    generalize (sp T 1000 3 1 (p + 1)).2 = q at s2 s3
    show OKat n p (if T q = 41 then (0, q + 1) else (-1000 - (q : Int), q))
    by_cases w : T q = 41
    · rw [if_pos w]
      have := T_in hT (p := q) (by omega)
      exact Or.inl ⟨rfl, by show p < q + 1; omega, this⟩
    · rw [if_neg w]; exact OK_bad (by omega) h160 s3
  · rw [seq_n s.1]; exact Or.inr s
theorem m_condition {T : Nat → Int} {n p : Nat} {i9 i10 i11 i17 : Int32} {a1 a : Nat → Int32} (hT : TXT T n) (hx : TXM T n i10 a1) (hg : i11.toInt = 0) (h9 : i9.toInt = (p : Int)) (hc : T p = 40) :
    ((spC T p).1 < 0 ∧ (F_m12_condition i9 i10 i11 i17 a1 a).2.1.toInt = (spC T p).1) ∨ ((spC T p).1 = 0 ∧ (F_m12_condition i9 i10 i11 i17 a1 a).1.toInt = ((spC T p).2 : Int) ∧ (F_m12_condition i9 i10 i11 i17 a1 a).2.1.toInt = 0) := by
  have h160 := hT.1
  have hpn := T_in hT (p := p) (by omega)
  have hr := hr_of hT hx h9
  have e0 : F_m12_condition i9 i10 i11 i17 a1 a = f_m12_condition_j25 i10 a1 1452001 1 (F_m12_opens i9 i10 i11 0 0 a1 a).1 (F_m12_opens i9 i10 i11 0 0 a1 a).2.1 (F_m12_opens i9 i10 i11 0 0 a1 a).2.2.1 (F_m12_opens i9 i10 i11 0 0 a1 a).2.2.2.1 0 i17 (F_m12_opens i9 i10 i11 0 0 a1 a).2.2.2.2 := rfl
  rw [e0, op_o (by decide)]
  dsimp only
  rw [CL_1 (n := 1452000) hg]
  have hK : KP n p [] i9 0 0 a := ⟨h9, c0, c0, trivial, Nat.zero_le _, by omega⟩
  have hK2 := KP_push h160 hK hpn (show (F_m12_here i9 i10 a1).toInt = 40 by omega) (by omega)
  have hcn : cn (40 :: []) = 1 := cn_y (by omega)
  have H := (m_conds hT hx hg 1000).2 (p + 1) 180 1452000 [] [] _ _ _ _ AJ_n hK2 (by omega) (by omega) (by omega) (by omega)
  have H2 := sp_ok hT 1000 3 1 (p + 1) (by omega) (by omega) (by omega)
  rw [hcn] at H
  unfold spC
  rcases H with ⟨r1, r2⟩ | ⟨r1, r0, H⟩
  · rw [seq_n r1]; exact Or.inl ⟨r1, r2⟩
  · rw [seq_y r1]
    have hq : p + 1 < (sp T 1000 3 1 (p + 1)).2 ∧ (sp T 1000 3 1 (p + 1)).2 ≤ n := by
      rcases H2 with ⟨_, s2, s3⟩ | s
      · exact ⟨s2, s3⟩
      · omega
    generalize (sp T 1000 3 1 (p + 1)).2 = q at r0 H hq
    show ((if T q = 41 then (0, q + 1) else (-1000 - (q : Int), q) : Int × Nat).1 < 0 ∧ _) ∨ _
    rcases H with ⟨b1, b2⟩ | ⟨f', L', j9, j14, j15, j17, b, e, eL, eK, ef⟩
    · rw [if_neg b2]
      exact Or.inl ⟨by show -1000 - (q : Int) < 0; omega, b1⟩
    · rw [e]
      obtain ⟨f', rfl⟩ : ∃ z, f' = z + 1 := ⟨f' - 1, by omega⟩
      by_cases w : T q = 41
      · rw [if_pos w]
        have E := GB_end (f := f') (i17 := j17) hT hx hg eL eK w
        exact Or.inr ⟨rfl, E.1, by rw [E.2]; exact hg⟩
      · rw [if_neg w]
        exact Or.inl ⟨by show -1000 - (q : Int) < 0; omega, GB_bad hT hx hg eK (by omega)⟩
/-- the same, read by the class -/
theorem x_condition {T : Nat → Int} {n p : Nat} {i12 y a b : Int32} {a1 : Nat → Int32} (hT : TXT T n) (hx : TXX T n i12 a1) (hy : y.toInt = ((p + 1 : Nat) : Int)) (hp : p < n) :
    XR (sp T 1000 3 1 (p + 1)) a b (G_x3_readCondition 6 1 i12 y a b a1) :=
  (x_all hT hx 1000 1000 (Nat.le_refl _) 1 6 rfl (Nat.le_refl _) (by omega)).2.2.2 (p + 1) 1 y a b c1 (by omega) hy (by have := hT.1; omega)

