section XCL
variable {T : Nat → Int} {n p r j : Nat} {u0 i9 i12 y a b : Int32} {a1 a23 a24 a25 : Nat → Int32}
theorem x_turn (hT : TXT T n) (hx : TXX T n i12 a1) (hi : i9.toInt = (r : Int)) (hj : u0.toInt = (j : Int)) (hr : r < 20) (hj2 : j < 16) (hy : y.toInt = (p : Int)) (hp : p ≤ n) :
    X7 (spW T p) a b (16 * r + j) a23 a24 a25 (spN T 39 p).2.2 (if T ((spN T 39 p).2.1 + 1) = 42 then 4 else T ((spN T 39 p).2.1 + 1) - 48) (spN T 79 ((spN T 39 p).2.1 + 3)).2.2 (F_x3_readTurning u0 i9 i12 y a b a1 a23 a24 a25) := by
  have c39 : (39 : Int32).toInt = 39 := by decide
  have N := xnum (u0 := 39) (i14 := a) (i15 := b) hT hx hy hp (by rw [c39]; decide)
  rw [c39] at N
  rw [E_x3_readTurning]
  generalize F_x3_readNumber 39 i12 y a b a1 = t at N
  obtain ⟨t1, t2, t3, t4⟩ := t
  dsimp only at N ⊢
  unfold spW
  rcases N with ⟨m1, m2, m3, m4, m5⟩ | ⟨m1, m2, m3⟩
  · have s := spN_at hT hp m1
    rw [seq_y (show (spO T 39 p).1 = 0 from m1), if_neg (show ¬ t1.toInt = -1 by omega), m4, m5, ← m2]
    exact x_turnA hT hx hi hj hr hj2 m3 s.2.1 rfl
  · rw [seq_n (show (spO T 39 p).1 < 0 from m1), if_pos (show t1.toInt = -1 by rw [m2]; decide)]
    exact ⟨Or.inr ⟨m1, rfl, m3⟩, Sm_r, Sm_r, Sm_r, fun h => absurd h (by show ¬ (spN T 39 p).1 = 0; omega)⟩
end XCL

