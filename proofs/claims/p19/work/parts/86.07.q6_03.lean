section GBS
variable {T : Nat → Int} {n q f : Nat} {i10 i11 i9 i14 i15 i17 : Int32} {a1 a : Nat → Int32} {L B : List Int}
theorem GB_and (hT : TXT T n) (hx : TXM T n i10 a1) (hg : i11.toInt = 0) (hL : AJ L) (hK : KP n q (L ++ 40 :: B) i9 i14 i15 a) (hc : T q = 38 ∨ T q = 124) : ∃ (L' : List Int) (j9 j15 : Int32) (b : Nat → Int32), GB i10 a1 (f + 1) i9 i11 i14 i15 i17 a = QP i10 a1 180 f j9 i11 i14 j15 b ∧ AJ L' ∧ KP n (q + 1) (L' ++ 40 :: B) j9 i14 j15 b := by
  have h160 := hT.1
  obtain ⟨q1, q2, q3, q4, q5, q6⟩ := hK
  have hr := hr_of hT hx q1
  have hqn := T_in hT (p := q) (by omega)
  have hl1 := len_app (L := L) (h := 40) (S := B)
  rw [cn_aj hL] at q2
  rcases hc with hc | hc
  · obtain ⟨L', g1, g2, g3, g4, g5⟩ := joins_of (p0 := 0) hL (by omega) q3 q4
    have hl2 := len_app (L := L') (h := 40) (S := B)
    refine ⟨38 :: L', i9 + 1, F_m12_joins 0 i15 a + 1, upd a (F_m12_joins 0 i15 a).toNatClampNeg (F_m12_here i9 i10 a1), ?_, AJ_c (by omega) g1, KP_put (S := L' ++ 40 :: B) h160 q1 (by rw [cn_aj g1]; exact q2) g3 g4 (by omega) hqn (by omega) (by omega)⟩
    rw [GB_e, gb_j1 (by omega)]
    exact CL_1 hg
  · obtain ⟨L', g1, g2, g3, g4, g5⟩ := joins_of (p0 := 1) hL (by omega) q3 q4
    have hl2 := len_app (L := L') (h := 40) (S := B)
    refine ⟨124 :: L', i9 + 1, F_m12_joins 1 i15 a + 1, upd a (F_m12_joins 1 i15 a).toNatClampNeg (F_m12_here i9 i10 a1), ?_, AJ_c (by omega) g1, KP_put (S := L' ++ 40 :: B) h160 q1 (by rw [cn_aj g1]; exact q2) g3 g4 (by omega) hqn (by omega) (by omega)⟩
    rw [GB_e, gb_j2 (by omega)]
    exact CL_1 hg
theorem GB_bad (hT : TXT T n) (hx : TXM T n i10 a1) (hg : i11.toInt = 0) {S : List Int} (hK : KP n q S i9 i14 i15 a) (hc : ¬ (T q = 38 ∨ T q = 124 ∨ T q = 41)) : (GB i10 a1 (f + 1) i9 i11 i14 i15 i17 a).2.1.toInt = -1000 - (q : Int) := by
  have h160 := hT.1
  have c1' := c1
  obtain ⟨q1, q2, q3, q4, q5, q6⟩ := hK
  have hr := hr_of hT hx q1
  have eb := fl0 (f := 1) (a := i9) hg (by omega) (by omega)
  rw [GB_e, gb_x (by omega) (by omega) (by omega)]
  show (f_m12_condition_j25 i10 a1 (f + 1) 0 i9 (F_m12_fails 1 i9 i11) i14 i15 0 i17 a).2.1.toInt = _
  rw [CL_bad (by omega)]; omega
theorem GB_close {h : Int} {S : List Int} (hT : TXT T n) (hx : TXM T n i10 a1) (hg : i11.toInt = 0) (hL : AJ L) (hK : KP n q (L ++ 40 :: (h :: S)) i9 i14 i15 a) (hc : T q = 41) : ∃ (j9 j14 j15 : Int32), GB i10 a1 (f + 1) i9 i11 i14 i15 i17 a = GB i10 a1 f j9 i11 j14 j15 i17 a ∧ KP n (q + 1) (dB (h :: S)) j9 j14 j15 a := by
  have h160 := hT.1
  obtain ⟨q1, q2, q3, q4, q5, q6⟩ := hK
  have hr := hr_of hT hx q1
  have hqn := T_in hT (p := q) (by omega)
  have hl1 := len_app (L := L) (h := 40) (S := h :: S)
  have hl3 : (h :: S).length = S.length + 1 := rfl
  have hcl := cn_l (h :: S)
  rw [cn_aj hL, cn_y (by omega)] at q2
  obtain ⟨L', g1, g2, g3, g4, g5⟩ := joins_of (p0 := 1) hL (by omega) q3 q4
  have g5 := g5 y10
  subst g5
  have g3 : (F_m12_joins 1 i15 a).toInt = (((h :: S).length + 1 : Nat) : Int) := g3
  have d1 := pred_of g3 (by omega)
  have d2 := pred_of q2 (by omega)
  have E := ends_of (S := h :: S) (by omega) d1 d2 g4.2
  have hd := dB_l (h :: S)
  refine ⟨i9 + 1, _, _, ?_, suc_of q1 (by omega), E.1, E.2.1, E.2.2, by omega, hqn⟩
  rw [GB_e, gb_r (by omega), if_pos (by omega)]
  exact CL_0 hg
theorem GB_end (hT : TXT T n) (hx : TXM T n i10 a1) (hg : i11.toInt = 0) (hL : AJ L) (hK : KP n q (L ++ 40 :: []) i9 i14 i15 a) (hc : T q = 41) : (GB i10 a1 (f + 1) i9 i11 i14 i15 i17 a).1.toInt = ((q + 1 : Nat) : Int) ∧ (GB i10 a1 (f + 1) i9 i11 i14 i15 i17 a).2.1 = i11 := by
  have h160 := hT.1
  obtain ⟨q1, q2, q3, q4, q5, q6⟩ := hK
  have hr := hr_of hT hx q1
  have hl1 := len_app (L := L) (h := 40) (S := [])
  have hl3 : ([] : List Int).length = 0 := rfl
  obtain ⟨L', g1, g2, g3, g4, g5⟩ := joins_of (p0 := 1) hL (by omega) q3 q4
  have g5 := g5 y10
  subst g5
  have g3 : (F_m12_joins 1 i15 a).toInt = ((0 + 1 : Nat) : Int) := g3
  have d1 := pred_of g3 (by omega)
  rw [GB_e, gb_r (by omega), if_neg (by omega)]
  have e : clt i10 a1 (f + 1) i17 ((0 : Int32), i9 + 1, i11, i14 - 1, F_m12_joins 1 i15 a - 1, (1 : Int32), a) = (i9 + 1, i11, i14 - 1, F_m12_joins 1 i15 a - 1, (1 : Int32), i17, a) := CL_d hg
  rw [e]
  exact ⟨suc_of q1 (by omega), rfl⟩
end GBS
