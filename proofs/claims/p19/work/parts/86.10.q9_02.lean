section MCL
variable {T : Nat → Int} {n p c : Nat} {p0 i9 i10 i11 : Int32} {a1 a20 a21 a22 : Nat → Int32}
theorem j55_bad {k : Int32} (h0 : p0.toInt = (c : Int)) (h : i11.toInt ≠ 0) : f_m12_readsMust_j55 p0 i10 a1 a21 a22 a20 i9 i11 k p0 = (i9 + 1, i11, a20, upd a21 c k, a22) := by
  rw [E_m12_readsMust_j55, nc h0, good0 h, if_pos y00]
theorem m_must (hT : TXT T n) (hx : TXM T n i10 a1) (hg : i11.toInt = 0) (h0 : p0.toInt = (c : Int)) (hy : i9.toInt = (p : Int)) (hp : p ≤ n) :
    Y5 (spW T p) i11 c a20 a21 a22 (fun b0 b1 b2 => (b0 c).toInt = (spN T 39 p).2.2 ∧ (b1 c).toInt = (if T ((spN T 39 p).2.1 + 1) = 42 then -1 else T ((spN T 39 p).2.1 + 1) - 48) ∧ (b2 c).toInt = (spN T 79 ((spN T 39 p).2.1 + 3)).2.2) (F_m12_readsMust p0 i9 i10 i11 a1 a20 a21 a22) := by
  have h160 := hT.1
  have c46 : (46 : Int32).toInt = 46 := by decide
  have c51 : (51 : Int32).toInt = 51 := by decide
  have c39 : (39 : Int32).toInt = 39 := by decide
  have c48' := c48
  have e1 := c1
  have N := mnum (p0 := 39) hT hx hy hp (by rw [c39]; decide) hg
  rw [c39] at N
  rw [E_m12_readsMust, nc h0]
  generalize F_m12_readsNumber 39 i9 i10 i11 a1 = t at N
  obtain ⟨t1, t2, t3⟩ := t
  unfold spW
  dsimp only
  rcases N with ⟨m1, m2, m3, m4⟩ | ⟨m1, m2⟩
  · have s := spN_at hT hp m1
    have m2' : t1.toInt = (spN T 39 p).2.2 := m2
    have m3' : t2.toInt = ((spN T 39 p).2.1 : Int) := m3
    have m4' : t3 = i11 := eq_of_toInt (by show (_ : Int32).toInt = _; rw [hg]; exact m4)
    clear m2 m3 m4
    subst m4'
    rw [seq_y (show (spO T 39 p).1 = 0 from m1), good1 hg, if_neg n10]
    show Y5 (spW2 T (spN T 39 p).2.1) _ _ _ _ _ _ _
    have sq := s.2.1
    obtain ⟨sv, hsv⟩ : ∃ w, (spN T 39 p).2.2 = w := ⟨_, rfl⟩
    obtain ⟨q, hqq⟩ : ∃ w, (spN T 39 p).2.1 = w := ⟨_, rfl⟩
    rw [hsv] at m2' ⊢
    rw [hqq] at m3' sq ⊢
    unfold spW2
    have q0 := hr_of hT hx m3'
    by_cases w : T q = 46
    · have hqn := T_in hT (p := q) (by omega)
      have hy1 := suc_of m3' (by omega)
      have q1 := hr_of hT hx hy1
      rw [must1 (by omega), if_neg (fun z => z w), E_m12_readsMust_j23]
      dsimp only
      rw [good1 hg, if_pos y10]
      by_cases w2 : T (q + 1) = 42 ∨ (48 ≤ T (q + 1) ∧ T (q + 1) ≤ 51)
      · have hqn1 := T_in hT (p := q + 1) (by omega)
        rw [if_neg (fun z => z w2)]
        have fin : ∀ k : Int32, k.toInt = (if T (q + 1) = 42 then -1 else T (q + 1) - 48) → Y5 (if T (q + 2) ≠ 61 then (-1000 - ((q + 2 : Nat) : Int), q + 2) else spO T 79 (q + 3)) t3 c a20 a21 a22 (fun b0 b1 b2 => (b0 c).toInt = sv ∧ (b1 c).toInt = (if T (q + 1) = 42 then -1 else T (q + 1) - 48) ∧ (b2 c).toInt = (spN T 79 (q + 3)).2.2) (f_m12_readsMust_j55 p0 i10 a1 a21 a22 (upd a20 c t1) (t2 + 1) t3 k p0) := by
          intro k hk
          obtain ⟨B, s0, s1, s2⟩ := m_mustB (p0 := p0) (a20 := upd a20 c t1) (a21 := a21) (a22 := a22) (k := k) hT hx hg h0 hy1 hqn1
          refine ⟨?_, Sm_t Sm_u s0, s1, s2⟩
          rcases B with B | ⟨B1, B2, B3, B4, B5, B6⟩
          · exact Or.inl B
          · exact Or.inr ⟨B1, B2, B3, by rw [B4, upd_s]; exact m2', by rw [B5]; exact hk, B6⟩
        have e44 : ∀ z : Int32, f_m12_readsMust_j44 p0 i10 a1 a21 a22 (upd a20 c t1) (t2 + 1) z = if (F_m12_here (t2 + 1) i10 a1).toInt ≠ 42 then f_m12_readsMust_j55 p0 i10 a1 a21 a22 (upd a20 c t1) (t2 + 1) z (F_m12_here (t2 + 1) i10 a1 - 48) p0 else f_m12_readsMust_j55 p0 i10 a1 a21 a22 (upd a20 c t1) (t2 + 1) z (-1) p0 := fun _ => E_m12_readsMust_j44
        by_cases w4 : T (q + 1) = 42
        · rw [if_pos (show (F_m12_here (t2 + 1) i10 a1).toInt = 42 by omega), e44, if_neg (show ¬ (F_m12_here (t2 + 1) i10 a1).toInt ≠ 42 by omega)]
          exact fin (-1) (by rw [if_pos w4]; decide)
        · rw [if_neg (show ¬ (F_m12_here (t2 + 1) i10 a1).toInt = 42 by omega)]
          rcases lie (u := F_m12_here (t2 + 1) i10 a1) (a := 48) (b := 51) with ⟨l1, l2, l⟩ | ⟨l1, l⟩
          · rw [l, if_pos y10, e44, if_pos (show (F_m12_here (t2 + 1) i10 a1).toInt ≠ 42 by omega)]
            refine fin _ ?_
            rw [if_neg w4]
            have := toInt_sub q1 c48 (by omega) (by omega)
            omega
          · omega
      · have f1 := fl0 (f := 1) (a := t2 + 1) hg (by omega) (by omega)
        rw [if_pos w2, if_neg (show ¬ (F_m12_here (t2 + 1) i10 a1).toInt = 42 by omega)]
        rcases lie (u := F_m12_here (t2 + 1) i10 a1) (a := 48) (b := 51) with ⟨l1, l2, l⟩ | ⟨l1, l⟩
        · omega
        · rw [l, if_neg n00, E_m12_readsMust_j44, if_pos (show (F_m12_here (t2 + 1) i10 a1).toInt ≠ 42 by omega), j55_bad h0 (by omega)]
          exact ⟨Or.inl ⟨by show -1000 - ((q + 1 : Nat) : Int) < 0; omega, by show (F_m12_fails 1 (t2 + 1) t3).toInt = -1000 - ((q + 1 : Nat) : Int); omega⟩, Sm_u, Sm_u, Sm_r⟩
    · have f1 := fl0 (f := 1) (a := t2) hg (by omega) (by omega)
      rw [must0 (by omega), if_pos w, E_m12_readsMust_j23]
      dsimp only
      rw [good0 (by omega), if_neg n00]
      exact ⟨Or.inl ⟨by show -1000 - (q : Int) < 0; omega, by show (F_m12_fails 1 t2 t3).toInt = -1000 - (q : Int); omega⟩, Sm_u, Sm_r, Sm_r⟩
  · have m2' : t3.toInt = (spN T 39 p).1 := m2
    rw [seq_n (show (spO T 39 p).1 < 0 from m1), good0 (by omega), if_pos y00, E_m12_readsMust_j23, good0 (by omega), if_neg n00]
    exact ⟨Or.inl ⟨m1, m2⟩, Sm_u, Sm_r, Sm_r⟩
end MCL
