section XCL
variable {T : Nat → Int} {n p r j : Nat} {u0 i9 i12 y a b : Int32} {a1 a23 a24 a25 : Nat → Int32}
/-- behind a FORM: = and a number -/
theorem x_turnB {k v : Int32} (hT : TXT T n) (hx : TXX T n i12 a1) (hi : i9.toInt = (r : Int)) (hj : u0.toInt = (j : Int)) (hr : r < 20) (hj2 : j < 16) (hy : y.toInt = (p : Int)) (hp : p < n) :
    X7 (if T (p + 1) ≠ 61 then (-1000 - ((p + 1 : Nat) : Int), p + 1) else spO T 79 (p + 2)) a b (16 * r + j) a23 a24 a25 v.toInt k.toInt (spN T 79 (p + 2)).2.2 (f_x3_readTurning_j37 u0 i9 i12 a1 a23 a24 a25 v y a b k) := by
  have h160 := hT.1
  have c61 : (61 : Int32).toInt = 61 := by decide
  have c79 : (79 : Int32).toInt = 79 := by decide
  have hy1 := suc_of hy (by omega)
  have hs1 := sg_of hT hx hy1
  rw [E_x3_readTurning_j37]
  by_cases w : T (p + 1) = 61
  · have hpn := T_in hT (p := p + 1) (by omega)
    have hy2 : (y + 1 + 1).toInt = ((p + 2 : Nat) : Int) := suc_of hy1 (by omega)
    rw [xpass1 (by omega), if_neg (fun z => z w)]
    dsimp only
    rw [if_pos y10, x_putM hi hj hr hj2]
    have N := xnum (u0 := 79) (i14 := a) (i15 := b) hT hx hy2 (by omega) (by rw [c79]; decide)
    rw [c79] at N
    generalize F_x3_readNumber 79 i12 (y + 1 + 1) a b a1 = t at N
    obtain ⟨t1, t2, t3, t4⟩ := t
    dsimp only at N ⊢
    rcases N with ⟨m1, m2, m3, m4, m5⟩ | ⟨m1, m2, m3⟩
    · have s := spN_at hT (show p + 2 ≤ n by omega) m1
      rw [if_neg (show ¬ t1.toInt = -1 by omega)]
      exact ⟨Or.inl ⟨m1, rfl, m3, m4, m5⟩, Sm_u, Sm_u, Sm_u, fun _ => ⟨by show (upd a23 _ _ _).toInt = _; rw [upd_s], by show (upd a24 _ _ _).toInt = _; rw [upd_s], by show (upd a25 _ _ _).toInt = _; rw [upd_s]; exact m2⟩⟩
    · rw [if_pos (by rw [m2]; decide)]
      exact ⟨Or.inr ⟨m1, rfl, m3⟩, Sm_u, Sm_u, Sm_u, fun h => absurd h (by show ¬ (spN T 79 (p + 2)).1 = 0; omega)⟩
  · rw [xpass0 (by omega), if_pos w]
    dsimp only
    rw [if_neg n00]
    exact X7_bad (g := 1) hy1 (by omega) (by decide) (by decide) (by decide)
end XCL
