section XCL
variable {T : Nat → Int} {n p r j : Nat} {u0 i9 i12 y a b : Int32} {a1 a23 a24 a25 : Nat → Int32}
/-- from the . on -/
theorem x_turnA {v : Int32} {q : Nat} (hT : TXT T n) (hx : TXX T n i12 a1) (hi : i9.toInt = (r : Int)) (hj : u0.toInt = (j : Int)) (hr : r < 20) (hj2 : j < 16) (hy : y.toInt = (q : Int)) (hq : q ≤ n) {t : R7}
    (et : t = if ((F_x3_pass 46 i12 y a b a1).1).toInt ≠ 0 then (if (F_x3_sign i12 (F_x3_pass 46 i12 y a b a1).2.1 a1).toInt = 42 then f_x3_readTurning_j32 u0 i9 i12 a1 a23 a24 a25 v (F_x3_pass 46 i12 y a b a1).2.1 (F_x3_pass 46 i12 y a b a1).2.2.1 (F_x3_pass 46 i12 y a b a1).2.2.2 else (if (F_x3_isBetween (F_x3_sign i12 (F_x3_pass 46 i12 y a b a1).2.1 a1) 48 51).toInt ≠ 0 then f_x3_readTurning_j32 u0 i9 i12 a1 a23 a24 a25 v (F_x3_pass 46 i12 y a b a1).2.1 (F_x3_pass 46 i12 y a b a1).2.2.1 (F_x3_pass 46 i12 y a b a1).2.2.2 else ((0 : Int32), (F_x3_pass 46 i12 y a b a1).2.1, (1 : Int32), (F_x3_pass 46 i12 y a b a1).2.1, a23, a24, a25))) else ((0 : Int32), (F_x3_pass 46 i12 y a b a1).2.1, (F_x3_pass 46 i12 y a b a1).2.2.1, (F_x3_pass 46 i12 y a b a1).2.2.2, a23, a24, a25)) :
    X7 (spW2 T q) a b (16 * r + j) a23 a24 a25 v.toInt (if T (q + 1) = 42 then 4 else T (q + 1) - 48) (spN T 79 (q + 3)).2.2 t := by
  have h160 := hT.1
  have c46 : (46 : Int32).toInt = 46 := by decide
  have c51 : (51 : Int32).toInt = 51 := by decide
  have c48' := c48
  have hs := sg_of hT hx hy
  subst et
  unfold spW2
  by_cases w : T q = 46
  · have hqn := T_in hT (p := q) (by omega)
    have hy1 := suc_of hy (by omega)
    have hs1 := sg_of hT hx hy1
    rw [xpass1 (by omega), if_neg (fun z => z w)]
    dsimp only
    rw [if_pos y10]
    by_cases w2 : T (q + 1) = 42 ∨ (48 ≤ T (q + 1) ∧ T (q + 1) ≤ 51)
    · have hqn1 := T_in hT (p := q + 1) (by omega)
      rw [if_neg (fun z => z w2)]
      by_cases w4 : T (q + 1) = 42
      · rw [if_pos (show (F_x3_sign i12 (y + 1) a1).toInt = 42 by omega), E_x3_readTurning_j32, if_neg (show ¬ (F_x3_sign i12 (y + 1) a1).toInt ≠ 42 by omega), if_pos w4]
        exact x_turnB (k := 4) hT hx hi hj hr hj2 hy1 hqn1
      · rw [if_neg (show ¬ (F_x3_sign i12 (y + 1) a1).toInt = 42 by omega)]
        rcases btw (u := F_x3_sign i12 (y + 1) a1) (a := 48) (b := 51) with ⟨q1, q2, z⟩ | ⟨q1, z⟩
        · have es : (F_x3_sign i12 (y + 1) a1 - 48).toInt = T (q + 1) - 48 := by
            have := toInt_sub (x := F_x3_sign i12 (y + 1) a1) (y := 48) rfl c48 (by omega) (by omega)
            omega
          rw [z, if_pos y10, E_x3_readTurning_j32, if_pos (show (F_x3_sign i12 (y + 1) a1).toInt ≠ 42 by omega), if_neg w4, ← es]
          exact x_turnB hT hx hi hj hr hj2 hy1 hqn1
        · omega
    · rw [if_neg (show ¬ (F_x3_sign i12 (y + 1) a1).toInt = 42 by omega), if_pos w2]
      rcases btw (u := F_x3_sign i12 (y + 1) a1) (a := 48) (b := 51) with ⟨q1, q2, z⟩ | ⟨q1, z⟩
      · omega
      · rw [z, if_neg n00]
        exact X7_bad (g := 1) hy1 (by omega) (by decide) (by decide) (by decide)
  · rw [xpass0 (by omega), if_pos w]
    dsimp only
    rw [if_neg n00]
    exact X7_bad (g := 1) hy (by omega) (by decide) (by decide) (by decide)
end XCL
