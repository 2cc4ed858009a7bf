section XCL
variable {T : Nat → Int} {n p r j : Nat} {u0 i9 i12 y a b : Int32} {a1 a23 a24 a25 : Nat → Int32}
theorem x_rest (hT : TXT T n) (hx : TXX T n i12 a1) (hi : i9.toInt = (r : Int)) (hj : u0.toInt = (j : Int)) (hr : r < 20) (hj2 : j < 16) (hy : y.toInt = (p : Int)) (hp : p ≤ n) :
    X7 (spO T 99999 p) a b (16 * r + j) a23 a24 a25 0 0 (spN T 99999 p).2.2 (F_x3_readRest u0 i9 i12 y a b a1 a23 a24 a25) := by
  have c9 : (99999 : Int32).toInt = 99999 := by decide
  have N := xnum (u0 := 99999) (i14 := a) (i15 := b) hT hx hy hp (by rw [c9]; decide)
  rw [c9] at N
  rw [E_x3_readRest, x_putM hi hj hr hj2]
  rcases N with ⟨m1, m2, m3, m4, m5⟩ | ⟨m1, m2, m3⟩
  · have s := spN_at hT hp m1
    rw [if_neg (by omega)]
    exact ⟨Or.inl ⟨m1, rfl, m3, m4, m5⟩, Sm_u, Sm_u, Sm_u, fun _ => ⟨by show (upd a23 _ 0 _).toInt = 0; rw [upd_s]; exact c0, by show (upd a24 _ 0 _).toInt = 0; rw [upd_s]; exact c0, by show (upd a25 _ _ _).toInt = _; rw [upd_s]; exact m2⟩⟩
  · rw [if_pos (by rw [m2]; decide)]
    exact ⟨Or.inr ⟨m1, rfl, m3⟩, Sm_u, Sm_u, Sm_u, fun h => absurd h (by show ¬ (spN T 99999 p).1 = 0; omega)⟩
theorem x_hund (hT : TXT T n) (hx : TXX T n i12 a1) (hi : i9.toInt = (r : Int)) (hj : u0.toInt = (j : Int)) (hr : r < 20) (hj2 : j < 16) (hy : y.toInt = (p : Int)) (hp : p ≤ n) :
    X7 (spH T p) a b (16 * r + j) a23 a24 a25 (T p - 48) 0 (spN T 100 (p + 2)).2.2 (F_x3_readHundredths u0 i9 i12 y a b a1 a23 a24 a25) := by
  have h160 := hT.1
  have c49 : (49 : Int32).toInt = 49 := by decide
  have c46 : (46 : Int32).toInt = 46 := by decide
  have hs := sg_of hT hx hy
  have c48' := c48
  have c1' := c1
  rw [E_x3_readHundredths]
  unfold spH
  rcases btw (u := F_x3_sign i12 y a1) (a := 48) (b := 49) with ⟨q1, q2, q⟩ | ⟨q1, q⟩
  · have hpn := T_in hT (p := p) (by omega)
    have hy1 := suc_of hy (by omega)
    have hs1 := sg_of hT hx hy1
    rw [q, if_pos y10, if_neg (show ¬ ¬ (48 ≤ T p ∧ T p ≤ 49) by omega)]
    by_cases w : T (p + 1) = 46
    · have hpn1 := T_in hT (p := p + 1) (by omega)
      have hy2 : (y + 1 + 1).toInt = ((p + 2 : Nat) : Int) := suc_of hy1 (by omega)
      rw [xpass1 (by omega), if_neg (fun z => z w)]
      dsimp only
      rw [if_pos y10]
      have c9 : (100 : Int32).toInt = 100 := by decide
      have N := xnum (u0 := 100) (i14 := a) (i15 := b) hT hx hy2 (by omega) (by rw [c9]; decide)
      rw [c9] at N
      rw [x_putM hi hj hr hj2]
      have es : (F_x3_sign i12 y a1 - 48).toInt = T p - 48 := by
        have := toInt_sub (x := F_x3_sign i12 y a1) (y := 48) rfl c48 (by omega) (by omega)
        omega
      rcases N with ⟨m1, m2, m3, m4, m5⟩ | ⟨m1, m2, m3⟩
      · have s := spN_at hT (show p + 2 ≤ n by omega) m1
        rw [if_neg (by omega)]
        exact ⟨Or.inl ⟨m1, rfl, m3, m4, m5⟩, Sm_u, Sm_u, Sm_u, fun _ => ⟨by show (upd a23 _ _ _).toInt = _; rw [upd_s]; exact es, by show (upd a24 _ 0 _).toInt = 0; rw [upd_s]; exact c0, by show (upd a25 _ _ _).toInt = _; rw [upd_s]; exact m2⟩⟩
      · rw [if_pos (by rw [m2]; decide)]
        exact ⟨Or.inr ⟨m1, rfl, m3⟩, Sm_u, Sm_u, Sm_u, fun h => absurd h (by show ¬ (spN T 100 (p + 2)).1 = 0; omega)⟩
    · rw [xpass0 (by omega), if_pos w]
      dsimp only
      rw [if_neg n00]
      exact X7_bad (g := 1) hy1 (by omega) (by decide) (by decide) (by decide)
  · rw [q, if_neg n00, if_pos (show ¬ (48 ≤ T p ∧ T p ≤ 49) by omega)]
    exact X7_bad (g := 1) hy (by omega) (by decide) (by decide) (by decide)
end XCL
