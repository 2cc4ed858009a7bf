section GBS
variable {T : Nat → Int} {n q f : Nat} {i10 i11 i9 i14 i15 i17 : Int32} {a1 a : Nat → Int32} {L B : List Int}
theorem GB_end (hT : TXT T n) (hx : TXM T n i10 a1) (hg : i11.toInt = 0) (hL : AJ L) (hK : KP n q (L ++ 40 :: []) i9 i14 i15 a) (hc : T q = 41) : (GB i10 a1 (f + 1) i9 i11 i14 i15 i17 a).1.toInt = ((q + 1 : Nat) : Int) ∧ (GB i10 a1 (f + 1) i9 i11 i14 i15 i17 a).2.1 = i11 := by
  have h160 := hT.1
  obtain ⟨q1, q2, q3, q4, q5, q6⟩ := hK
  have hr := hr_of hT hx q1
  have hl1 := len_app (L := L) (h := 40) (S := [])
  have hl3 : ([] : List Int).length = 0 := rfl
  obtain ⟨L', g1, g2, g3, g4, g5⟩ := joins_of (p0 := 1) hL (by omega) q3 q4
  have g5 := g5 y10
  subst g5
  have g3 : (F_m12_joins 1 i15 a).toInt = ((0 + 1 : Nat) : Int) := g3
  have d1 := pred_of g3 (by omega)
  rw [GB_e, gb_r (by omega), if_neg (by omega)]
  have e : clt i10 a1 (f + 1) i17 ((0 : Int32), i9 + 1, i11, i14 - 1, F_m12_joins 1 i15 a - 1, (1 : Int32), a) = (i9 + 1, i11, i14 - 1, F_m12_joins 1 i15 a - 1, (1 : Int32), i17, a) := CL_d hg
  rw [e]
  exact ⟨suc_of q1 (by omega), rfl⟩
end GBS
def MPP (T : Nat → Int) (n : Nat) (i10 : Int32) (a1 : Nat → Int32) (i11 : Int32) (k : Nat) : Prop := ∀ (p m f : Nat) (h : Int) (S : List Int) (i9 i14 i15 : Int32) (a : Nat → Int32), (h = 33 ∨ h = 40 ∨ h = 38 ∨ h = 124) → KP n p (h :: S) i9 i14 i15 a → cn (h :: S) ≤ 6 → 1 ≤ cn (h :: S) → 4 * (n + 1 - p) + 2 < k → 170 ≤ m + p → 400 ≤ f + p →
  ((sp T k 2 (cn (h :: S)) p).1 < 0 ∧ (QP i10 a1 m f i9 i11 i14 i15 a).2.1.toInt = (sp T k 2 (cn (h :: S)) p).1) ∨ ((sp T k 2 (cn (h :: S)) p).1 = 0 ∧ (((QP i10 a1 m f i9 i11 i14 i15 a).2.1.toInt = -1000 - ((sp T k 2 (cn (h :: S)) p).2 : Int) ∧ ¬ (T (sp T k 2 (cn (h :: S)) p).2 = 38 ∨ T (sp T k 2 (cn (h :: S)) p).2 = 124 ∨ T (sp T k 2 (cn (h :: S)) p).2 = 41)) ∨ ∃ (f' : Nat) (j9 j14 j15 j17 : Int32) (b : Nat → Int32), QP i10 a1 m f i9 i11 i14 i15 a = GB i10 a1 f' j9 i11 j14 j15 j17 b ∧ KP n (sp T k 2 (cn (h :: S)) p).2 (dB (h :: S)) j9 j14 j15 b ∧ 400 ≤ f' + (sp T k 2 (cn (h :: S)) p).2))
def MCC (T : Nat → Int) (n : Nat) (i10 : Int32) (a1 : Nat → Int32) (i11 : Int32) (k : Nat) : Prop := ∀ (p m f : Nat) (L B : List Int) (i9 i14 i15 : Int32) (a : Nat → Int32), AJ L → KP n p (L ++ 40 :: B) i9 i14 i15 a → cn (40 :: B) ≤ 6 → 4 * (n + 1 - p) + 3 < k → 170 ≤ m + p → 400 ≤ f + p →
  ((sp T k 3 (cn (40 :: B)) p).1 < 0 ∧ (QP i10 a1 m f i9 i11 i14 i15 a).2.1.toInt = (sp T k 3 (cn (40 :: B)) p).1) ∨ ((sp T k 3 (cn (40 :: B)) p).1 = 0 ∧ ¬ (T (sp T k 3 (cn (40 :: B)) p).2 = 38 ∨ T (sp T k 3 (cn (40 :: B)) p).2 = 124) ∧ (((QP i10 a1 m f i9 i11 i14 i15 a).2.1.toInt = -1000 - ((sp T k 3 (cn (40 :: B)) p).2 : Int) ∧ T (sp T k 3 (cn (40 :: B)) p).2 ≠ 41) ∨ ∃ (f' : Nat) (L' : List Int) (j9 j14 j15 j17 : Int32) (b : Nat → Int32), QP i10 a1 m f i9 i11 i14 i15 a = GB i10 a1 f' j9 i11 j14 j15 j17 b ∧ AJ L' ∧ KP n (sp T k 3 (cn (40 :: B)) p).2 (L' ++ 40 :: B) j9 j14 j15 b ∧ 400 ≤ f' + (sp T k 3 (cn (40 :: B)) p).2))
