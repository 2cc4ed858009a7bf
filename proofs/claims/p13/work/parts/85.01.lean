noncomputable def f_x11_spell_b_22 (i0 : Int32) (a4 : Nat → Int32) (a5 : Nat → Int32) : Int32 × Int32 × (Nat → Int32) × (Nat → Int32) :=
  ((0 : Int32), i0, a4, a5)
noncomputable def f_x11_spell_b_31 (u0 : Int32) (u1 : Int32) (u2 : Int32) (i2 : Int32) (a1 : Nat → Int32) (a4 : Nat → Int32) (a5 : Nat → Int32) : Int32 × Int32 × (Nat → Int32) × (Nat → Int32) :=
  let a4_35 : Nat → Int32 := (F_x10_respell u0 u1 u2 i2 a1 a4 a5).1
  let a5_36 : Nat → Int32 := (F_x10_respell u0 u1 u2 i2 a1 a4 a5).2
  ((1 : Int32), (0 : Int32), a4_35, a5_36)
noncomputable def f_x11_spell_b_40 (i0 : Int32) (a4 : Nat → Int32) (a5 : Nat → Int32) : Int32 × Int32 × (Nat → Int32) × (Nat → Int32) :=
  ((0 : Int32), i0, a4, a5)
noncomputable def f_x11_spell_b_24 (u0 : Int32) (u1 : Int32) (u2 : Int32) (i0 : Int32) (i2 : Int32) (a1 : Nat → Int32) (a4 : Nat → Int32) (a5 : Nat → Int32) : Int32 × Int32 × (Nat → Int32) × (Nat → Int32) :=
  let v_25 : Int32 := (F_x11_tapeHasLetters u2 a1)
  if v_25.toInt ≠ 0 then (f_x11_spell_b_31 u0 u1 u2 i2 a1 a4 a5) else (f_x11_spell_b_40 i0 a4 a5)
noncomputable def f_x11_spell_b_15 (u0 : Int32) (u1 : Int32) (u2 : Int32) (i0 : Int32) (i2 : Int32) (a1 : Nat → Int32) (a4 : Nat → Int32) (a5 : Nat → Int32) : Int32 × Int32 × (Nat → Int32) × (Nat → Int32) :=
  let v_16 : Int32 := (F_x11_tapeHas u2 (12 : Int32) i0)
  if v_16.toInt = 0 then (f_x11_spell_b_22 i0 a4 a5) else (f_x11_spell_b_24 u0 u1 u2 i0 i2 a1 a4 a5)
noncomputable def f_x11_spell_b_42 (i0 : Int32) (a4 : Nat → Int32) (a5 : Nat → Int32) : Int32 × Int32 × (Nat → Int32) × (Nat → Int32) :=
  ((0 : Int32), i0, a4, a5)
noncomputable def f_x11_spell_b_8 (u0 : Int32) (u1 : Int32) (u2 : Int32) (i0 : Int32) (i2 : Int32) (a1 : Nat → Int32) (a4 : Nat → Int32) (a5 : Nat → Int32) : Int32 × Int32 × (Nat → Int32) × (Nat → Int32) :=
  let v_9 : Int32 := (F_x10_has u1 i2)
  if v_9.toInt ≠ 0 then (f_x11_spell_b_15 u0 u1 u2 i0 i2 a1 a4 a5) else (f_x11_spell_b_42 i0 a4 a5)
noncomputable def F_x11_spell (u0 : Int32) (u1 : Int32) (u2 : Int32) (i0 : Int32) (i2 : Int32) (a1 : Nat → Int32) (a4 : Nat → Int32) (a5 : Nat → Int32) : Int32 × Int32 × (Nat → Int32) × (Nat → Int32) :=
  let v_1 : Int32 := (F_x11_isEdition u0)
  if v_1.toInt = 0 then (f_x11_spell_b_6 i0 a4 a5) else (f_x11_spell_b_8 u0 u1 u2 i0 i2 a1 a4 a5)
noncomputable def f_x10_isVowel_b_2  : Int32 :=
  (1 : Int32)
noncomputable def f_x10_isVowel_b_6  : Int32 :=
  (1 : Int32)
noncomputable def f_x10_isVowel_b_10  : Int32 :=
  (1 : Int32)
noncomputable def f_x10_isVowel_b_14  : Int32 :=
  (1 : Int32)
noncomputable def f_x10_isVowel_b_18  : Int32 :=
  (1 : Int32)
noncomputable def f_x10_isVowel_b_22  : Int32 :=
  (0 : Int32)
noncomputable def f_x10_isVowel_b_24  : Int32 :=
  (1 : Int32)
noncomputable def f_x10_isVowel_b_20 (u0 : Int32) : Int32 :=
  if u0.toInt ≠ 121 then f_x10_isVowel_b_22 else f_x10_isVowel_b_24
noncomputable def f_x10_isVowel_b_16 (u0 : Int32) : Int32 :=
  if u0.toInt = 117 then f_x10_isVowel_b_18 else (f_x10_isVowel_b_20 u0)
noncomputable def f_x10_isVowel_b_12 (u0 : Int32) : Int32 :=
  if u0.toInt = 111 then f_x10_isVowel_b_14 else (f_x10_isVowel_b_16 u0)
noncomputable def f_x10_isVowel_b_8 (u0 : Int32) : Int32 :=
  if u0.toInt = 105 then f_x10_isVowel_b_10 else (f_x10_isVowel_b_12 u0)
noncomputable def f_x10_isVowel_b_4 (u0 : Int32) : Int32 :=
  if u0.toInt = 101 then f_x10_isVowel_b_6 else (f_x10_isVowel_b_8 u0)
noncomputable def F_x10_isVowel (u0 : Int32) : Int32 :=
  if u0.toInt = 97 then f_x10_isVowel_b_2 else (f_x10_isVowel_b_4 u0)
noncomputable def f_x10_vowelRows_b_17 (x_10 : Int32) : Int32 :=
  let v_18 : Int32 := maxI ((1 : Int32)) x_10
  v_18
noncomputable def f_x10_vowelRows_b_33 (x_10 : Int32) (x_13 : Int32) (self_J_9 : Int32 → Int32 → Int32 → Int32) (v_28 : Int32) : Int32 :=
  let z_34 : Int32 := x_13 + Int32.ofInt 1
  self_J_9 x_10 v_28 z_34
noncomputable def f_x10_vowelRows_b_37 (x_10 : Int32) (x_13 : Int32) (self_J_9 : Int32 → Int32 → Int32 → Int32) (v_28 : Int32) : Int32 :=
  let z_38 : Int32 := x_13 + Int32.ofInt 1
  self_J_9 x_10 v_28 z_38
noncomputable def f_x10_vowelRows_b_39 (x_10 : Int32) (x_13 : Int32) (self_J_9 : Int32 → Int32 → Int32 → Int32) (v_28 : Int32) : Int32 :=
  let z_40 : Int32 := x_10 + Int32.ofInt 1
  let z_41 : Int32 := x_13 + Int32.ofInt 1
  self_J_9 z_40 v_28 z_41
noncomputable def f_x10_vowelRows_b_35 (x_10 : Int32) (x_11 : Int32) (x_13 : Int32) (self_J_9 : Int32 → Int32 → Int32 → Int32) (v_28 : Int32) : Int32 :=
  if x_11.toInt ≠ 0 then (f_x10_vowelRows_b_37 x_10 x_13 self_J_9 v_28) else (f_x10_vowelRows_b_39 x_10 x_13 self_J_9 v_28)
noncomputable def f_x10_vowelRows_b_24 (a4 : Nat → Int32) (z_8 : Int32) (x_10 : Int32) (x_11 : Int32) (x_13 : Int32) (self_J_9 : Int32 → Int32 → Int32 → Int32) : Int32 :=
  let z_25 : Int32 := z_8 * (12 : Int32)
  let z_26 : Int32 := z_25 + x_13
  let z_27 : Int32 := a4 z_26.toNatClampNeg
  let v_28 : Int32 := (F_x10_isVowel z_27)
  if v_28.toInt = 0 then (f_x10_vowelRows_b_33 x_10 x_13 self_J_9 v_28) else (f_x10_vowelRows_b_35 x_10 x_11 x_13 self_J_9 v_28)
noncomputable def f_x10_vowelRows_J_9 (a4 : Nat → Int32) (a5 : Nat → Int32) (z_8 : Int32) (x_10 : Int32) (x_11 : Int32) (x_13 : Int32) (self_J_9 : Int32 → Int32 → Int32 → Int32) : Int32 :=
  let z_15 : Int32 := a5 z_8.toNatClampNeg
  if x_13.toInt ≥ z_15.toInt then (f_x10_vowelRows_b_17 x_10) else (f_x10_vowelRows_b_24 a4 z_8 x_10 x_11 x_13 self_J_9)
noncomputable def f_x10_vowelRows_j9 (a4 : Nat → Int32) (a5 : Nat → Int32) (z_8 : Int32) (n : Nat) : Int32 → Int32 → Int32 → Int32 :=
  Nat.rec (motive := fun _ => Int32 → Int32 → Int32 → Int32) (fun _ _ _ => 0) (fun _ sq_ x_10 x_11 x_13 => f_x10_vowelRows_J_9 a4 a5 z_8 x_10 x_11 x_13 sq_) n
noncomputable def f_x10_vowelRows_b_7 (u0 : Int32) (a4 : Nat → Int32) (a5 : Nat → Int32) : Int32 :=
  let z_8 : Int32 := u0 * (5 : Int32)
  f_x10_vowelRows_j9 a4 a5 z_8 13 ((0 : Int32)) ((0 : Int32)) ((0 : Int32))
noncomputable def f_x10_vowelRows_b_42  : Int32 :=
  (0 : Int32)
noncomputable def F_x10_vowelRows (u0 : Int32) (i2 : Int32) (a4 : Nat → Int32) (a5 : Nat → Int32) : Int32 :=
  let v_1 : Int32 := (F_x10_has u0 i2)
  if v_1.toInt ≠ 0 then (f_x10_vowelRows_b_7 u0 a4 a5) else f_x10_vowelRows_b_42
noncomputable def f_x11_syllables_b_7  : Int32 :=
  (-1 : Int32)
noncomputable def f_x11_syllables_b_9 (u0 : Int32) (i2 : Int32) (a4 : Nat → Int32) (a5 : Nat → Int32) : Int32 :=
  let v_10 : Int32 := (F_x10_vowelRows u0 i2 a4 a5)
  v_10
noncomputable def F_x11_syllables (u0 : Int32) (i2 : Int32) (a4 : Nat → Int32) (a5 : Nat → Int32) : Int32 :=
  let v_1 : Int32 := (F_x10_has u0 i2)
  if v_1.toInt = 0 then f_x11_syllables_b_7 else (f_x11_syllables_b_9 u0 i2 a4 a5)
noncomputable def f_x11_isRate_b_2  : Int32 :=
  (0 : Int32)
noncomputable def f_x11_isRate_b_6  : Int32 :=
  (0 : Int32)
noncomputable def f_x11_isRate_b_8  : Int32 :=
  (1 : Int32)
noncomputable def f_x11_isRate_b_4 (u0 : Int32) : Int32 :=
  if u0.toInt > 99 then f_x11_isRate_b_6 else f_x11_isRate_b_8
noncomputable def F_x11_isRate (u0 : Int32) : Int32 :=
  if u0.toInt < 0 then f_x11_isRate_b_2 else (f_x11_isRate_b_4 u0)
noncomputable def f_x4_enterCompany_b_2 (u0 : Int32) (u1 : Int32) (i6 : Int32) (a13 : Nat → Int32) (a14 : Nat → Int32) : Int32 × Int32 × (Nat → Int32) × (Nat → Int32) :=
  let a13_3 : Nat → Int32 := upd a13 i6.toNatClampNeg u0
  let a14_4 : Nat → Int32 := upd a14 i6.toNatClampNeg u1
  let z_5 : Int32 := i6 + (1 : Int32)
  let z_6 : Int32 := z_5 - (1 : Int32)
  (z_6, z_5, a13_3, a14_4)
noncomputable def f_x4_enterCompany_b_8 (i6 : Int32) (a13 : Nat → Int32) (a14 : Nat → Int32) : Int32 × Int32 × (Nat → Int32) × (Nat → Int32) :=
  ((-1 : Int32), i6, a13, a14)
noncomputable def F_x4_enterCompany (u0 : Int32) (u1 : Int32) (i6 : Int32) (a13 : Nat → Int32) (a14 : Nat → Int32) : Int32 × Int32 × (Nat → Int32) × (Nat → Int32) :=
  if i6.toInt < 6 then (f_x4_enterCompany_b_2 u0 u1 i6 a13 a14) else (f_x4_enterCompany_b_8 i6 a13 a14)
noncomputable def f_x11_company_b_2 (i6 : Int32) (a13 : Nat → Int32) (a14 : Nat → Int32) : Int32 × Int32 × (Nat → Int32) × (Nat → Int32) :=
  ((-1 : Int32), i6, a13, a14)
noncomputable def f_x11_company_b_6 (i6 : Int32) (a13 : Nat → Int32) (a14 : Nat → Int32) : Int32 × Int32 × (Nat → Int32) × (Nat → Int32) :=
  ((-1 : Int32), i6, a13, a14)
noncomputable def f_x11_company_b_14 (u0 : Int32) (u1 : Int32) (i6 : Int32) (a13 : Nat → Int32) (a14 : Nat → Int32) : Int32 × Int32 × (Nat → Int32) × (Nat → Int32) :=
  let v_15 : Int32 := (F_x4_enterCompany u0 u1 i6 a13 a14).1
  let i6_18 : Int32 := (F_x4_enterCompany u0 u1 i6 a13 a14).2.1
  let a13_19 : Nat → Int32 := (F_x4_enterCompany u0 u1 i6 a13 a14).2.2.1
  let a14_20 : Nat → Int32 := (F_x4_enterCompany u0 u1 i6 a13 a14).2.2.2
  (v_15, i6_18, a13_19, a14_20)
noncomputable def f_x11_company_b_28 (i6 : Int32) (a13 : Nat → Int32) (a14 : Nat → Int32) : Int32 × Int32 × (Nat → Int32) × (Nat → Int32) :=
  ((-1 : Int32), i6, a13, a14)
noncomputable def f_x11_company_b_8 (u0 : Int32) (u1 : Int32) (i6 : Int32) (a13 : Nat → Int32) (a14 : Nat → Int32) : Int32 × Int32 × (Nat → Int32) × (Nat → Int32) :=
  let v_9 : Int32 := (F_x11_isRate u1)
  if v_9.toInt ≠ 0 then (f_x11_company_b_14 u0 u1 i6 a13 a14) else (f_x11_company_b_28 i6 a13 a14)
noncomputable def f_x11_company_b_4 (u0 : Int32) (u1 : Int32) (i6 : Int32) (a13 : Nat → Int32) (a14 : Nat → Int32) : Int32 × Int32 × (Nat → Int32) × (Nat → Int32) :=
  if u0.toInt > 255 then (f_x11_company_b_6 i6 a13 a14) else (f_x11_company_b_8 u0 u1 i6 a13 a14)
noncomputable def F_x11_company (u0 : Int32) (u1 : Int32) (i6 : Int32) (a13 : Nat → Int32) (a14 : Nat → Int32) : Int32 × Int32 × (Nat → Int32) × (Nat → Int32) :=
  if u0.toInt < 0 then (f_x11_company_b_2 i6 a13 a14) else (f_x11_company_b_4 u0 u1 i6 a13 a14)
noncomputable def f_x4_hasCompany_b_2  : Int32 :=
  (0 : Int32)
noncomputable def f_x4_hasCompany_b_6  : Int32 :=
  (0 : Int32)
noncomputable def f_x4_hasCompany_b_8  : Int32 :=
  (1 : Int32)
noncomputable def f_x4_hasCompany_b_4 (u0 : Int32) (i6 : Int32) : Int32 :=
  if u0.toInt ≥ i6.toInt then f_x4_hasCompany_b_6 else f_x4_hasCompany_b_8
noncomputable def F_x4_hasCompany (u0 : Int32) (i6 : Int32) : Int32 :=
  if u0.toInt < 0 then f_x4_hasCompany_b_2 else (f_x4_hasCompany_b_4 u0 i6)
noncomputable def f_x4_enterScholar_b_2 (i7 : Int32) (a15 : Nat → Int32) : Int32 × Int32 × (Nat → Int32) :=
  ((-1 : Int32), i7, a15)
noncomputable def f_x4_enterScholar_b_17 (i7 : Int32) (a15_15 : Nat → Int32) : Int32 × Int32 × (Nat → Int32) :=
  let z_18 : Int32 := i7 + (1 : Int32)
  let z_19 : Int32 := z_18 - (1 : Int32)
  (z_19, z_18, a15_15)
noncomputable def f_x4_enterScholar_b_21 (i7 : Int32) (a15_15 : Nat → Int32) : Int32 × Int32 × (Nat → Int32) :=
  let z_23 : Int32 := i7 + (1 : Int32)
  let z_24 : Int32 := z_23 - (1 : Int32)
  (z_24, z_23, a15_15)
noncomputable def f_x4_enterScholar_b_11 (u0 : Int32) (u1 : Int32) (i7 : Int32) (a15 : Nat → Int32) : Int32 × Int32 × (Nat → Int32) :=
  let z_12 : Int32 := (1 : Int32) <<< (i7 &&& 31)
  let z_13 : Int32 := a15 u0.toNatClampNeg
  let z_14 : Int32 := z_13 ||| z_12
  let a15_15 : Nat → Int32 := upd a15 u0.toNatClampNeg z_14
  if u1.toInt = 0 then (f_x4_enterScholar_b_17 i7 a15_15) else (f_x4_enterScholar_b_21 i7 a15_15)
noncomputable def f_x4_enterScholar_b_26 (i7 : Int32) (a15 : Nat → Int32) : Int32 × Int32 × (Nat → Int32) :=
  ((-1 : Int32), i7, a15)
noncomputable def f_x4_enterScholar_b_4 (u0 : Int32) (u1 : Int32) (i6 : Int32) (i7 : Int32) (a15 : Nat → Int32) : Int32 × Int32 × (Nat → Int32) :=
  let v_5 : Int32 := (F_x4_hasCompany u0 i6)
  if v_5.toInt ≠ 0 then (f_x4_enterScholar_b_11 u0 u1 i7 a15) else (f_x4_enterScholar_b_26 i7 a15)
noncomputable def F_x4_enterScholar (u0 : Int32) (u1 : Int32) (i6 : Int32) (i7 : Int32) (a15 : Nat → Int32) : Int32 × Int32 × (Nat → Int32) :=
  if i7.toInt ≥ 24 then (f_x4_enterScholar_b_2 i7 a15) else (f_x4_enterScholar_b_4 u0 u1 i6 i7 a15)
noncomputable def f_x11_scholar_b_7 (i7 : Int32) (a15 : Nat → Int32) : Int32 × Int32 × (Nat → Int32) :=
  ((-1 : Int32), i7, a15)
noncomputable def f_x11_scholar_b_9 (u0 : Int32) (u1 : Int32) (i6 : Int32) (i7 : Int32) (a15 : Nat → Int32) : Int32 × Int32 × (Nat → Int32) :=
  let v_10 : Int32 := (F_x4_enterScholar u0 u1 i6 i7 a15).1
  let i7_14 : Int32 := (F_x4_enterScholar u0 u1 i6 i7 a15).2.1
  let a15_15 : Nat → Int32 := (F_x4_enterScholar u0 u1 i6 i7 a15).2.2
  (v_10, i7_14, a15_15)
noncomputable def F_x11_scholar (u0 : Int32) (u1 : Int32) (i6 : Int32) (i7 : Int32) (a15 : Nat → Int32) : Int32 × Int32 × (Nat → Int32) :=
  let v_1 : Int32 := (F_x4_hasCompany u0 i6)
  if v_1.toInt = 0 then (f_x11_scholar_b_7 i7 a15) else (f_x11_scholar_b_9 u0 u1 i6 i7 a15)
noncomputable def f_x2_isFull_b_2  : Int32 :=
  (0 : Int32)
noncomputable def f_x2_isFull_b_4  : Int32 :=
  (1 : Int32)
noncomputable def F_x2_isFull (i9 : Int32) : Int32 :=
  if i9.toInt < 20 then f_x2_isFull_b_2 else f_x2_isFull_b_4
noncomputable def f_x3_sign_b_2  : Int32 :=
  (-1 : Int32)
noncomputable def f_x3_sign_b_6  : Int32 :=
  (-1 : Int32)
noncomputable def f_x3_sign_b_10  : Int32 :=
  (-1 : Int32)
noncomputable def f_x3_sign_b_12 (i13 : Int32) (a1 : Nat → Int32) : Int32 :=
  let z_13 : Int32 := a1 i13.toNatClampNeg
  z_13
noncomputable def f_x3_sign_b_8 (i13 : Int32) (a1 : Nat → Int32) : Int32 :=
  if i13.toInt ≥ 200 then f_x3_sign_b_10 else (f_x3_sign_b_12 i13 a1)
noncomputable def f_x3_sign_b_4 (i12 : Int32) (i13 : Int32) (a1 : Nat → Int32) : Int32 :=
  if i13.toInt ≥ i12.toInt then f_x3_sign_b_6 else (f_x3_sign_b_8 i13 a1)
noncomputable def F_x3_sign (i12 : Int32) (i13 : Int32) (a1 : Nat → Int32) : Int32 :=
  if i13.toInt < 0 then f_x3_sign_b_2 else (f_x3_sign_b_4 i12 i13 a1)
noncomputable def F_x3_fail (u0 : Int32) (u1 : Int32) : Int32 × Int32 × Int32 :=
  ((0 : Int32), u0, u1)
noncomputable def F_x2_clauseOf (u0 : Int32) (u1 : Int32) : Int32 :=
  let z_1 : Int32 := u0 * (16 : Int32)
  let z_2 : Int32 := z_1 + u1
  z_2
noncomputable def f_x2_putClause_b_7 (a22 : Nat → Int32) (a26 : Nat → Int32) : (Nat → Int32) × (Nat → Int32) :=
  (a22, a26)
noncomputable def f_x2_putClause_b_10 (a22 : Nat → Int32) (a26 : Nat → Int32) : (Nat → Int32) × (Nat → Int32) :=
  (a22, a26)
noncomputable def f_x2_putClause_b_13 (u0 : Int32) (u1 : Int32) (u2 : Int32) (i9 : Int32) (a22 : Nat → Int32) (a26 : Nat → Int32) : (Nat → Int32) × (Nat → Int32) :=
  let v_14 : Int32 := (F_x2_clauseOf i9 u0)
  let a22_18 : Nat → Int32 := upd a22 v_14.toNatClampNeg u1
  let a26_19 : Nat → Int32 := upd a26 v_14.toNatClampNeg u2
  (a22_18, a26_19)
noncomputable def f_x2_putClause_b_20 (a22 : Nat → Int32) (a26 : Nat → Int32) : (Nat → Int32) × (Nat → Int32) :=
  (a22, a26)
noncomputable def f_x2_putClause_b_11 (u0 : Int32) (u1 : Int32) (u2 : Int32) (i9 : Int32) (a22 : Nat → Int32) (a26 : Nat → Int32) : (Nat → Int32) × (Nat → Int32) :=
  if u0.toInt < 16 then (f_x2_putClause_b_13 u0 u1 u2 i9 a22 a26) else (f_x2_putClause_b_20 a22 a26)
noncomputable def f_x2_putClause_b_8 (u0 : Int32) (u1 : Int32) (u2 : Int32) (i9 : Int32) (a22 : Nat → Int32) (a26 : Nat → Int32) : (Nat → Int32) × (Nat → Int32) :=
  if u0.toInt < 0 then (f_x2_putClause_b_10 a22 a26) else (f_x2_putClause_b_11 u0 u1 u2 i9 a22 a26)
noncomputable def F_x2_putClause (u0 : Int32) (u1 : Int32) (u2 : Int32) (i9 : Int32) (a22 : Nat → Int32) (a26 : Nat → Int32) : (Nat → Int32) × (Nat → Int32) :=
  let v_1 : Int32 := (F_x2_isFull i9)
  if v_1.toInt ≠ 0 then (f_x2_putClause_b_7 a22 a26) else (f_x2_putClause_b_8 u0 u1 u2 i9 a22 a26)
noncomputable def f_x2_putMeaning_b_7 (a23 : Nat → Int32) (a24 : Nat → Int32) (a25 : Nat → Int32) : (Nat → Int32) × (Nat → Int32) × (Nat → Int32) :=
  (a23, a24, a25)
noncomputable def f_x2_putMeaning_b_10 (a23 : Nat → Int32) (a24 : Nat → Int32) (a25 : Nat → Int32) : (Nat → Int32) × (Nat → Int32) × (Nat → Int32) :=
  (a23, a24, a25)
noncomputable def f_x2_putMeaning_b_13 (u0 : Int32) (u1 : Int32) (u2 : Int32) (u3 : Int32) (i9 : Int32) (a23 : Nat → Int32) (a24 : Nat → Int32) (a25 : Nat → Int32) : (Nat → Int32) × (Nat → Int32) × (Nat → Int32) :=
  let v_14 : Int32 := (F_x2_clauseOf i9 u0)
  let a23_18 : Nat → Int32 := upd a23 v_14.toNatClampNeg u1
  let a24_19 : Nat → Int32 := upd a24 v_14.toNatClampNeg u2
  let a25_20 : Nat → Int32 := upd a25 v_14.toNatClampNeg u3
  (a23_18, a24_19, a25_20)
noncomputable def f_x2_putMeaning_b_21 (a23 : Nat → Int32) (a24 : Nat → Int32) (a25 : Nat → Int32) : (Nat → Int32) × (Nat → Int32) × (Nat → Int32) :=
  (a23, a24, a25)
noncomputable def f_x2_putMeaning_b_11 (u0 : Int32) (u1 : Int32) (u2 : Int32) (u3 : Int32) (i9 : Int32) (a23 : Nat → Int32) (a24 : Nat → Int32) (a25 : Nat → Int32) : (Nat → Int32) × (Nat → Int32) × (Nat → Int32) :=
  if u0.toInt < 16 then (f_x2_putMeaning_b_13 u0 u1 u2 u3 i9 a23 a24 a25) else (f_x2_putMeaning_b_21 a23 a24 a25)
noncomputable def f_x2_putMeaning_b_8 (u0 : Int32) (u1 : Int32) (u2 : Int32) (u3 : Int32) (i9 : Int32) (a23 : Nat → Int32) (a24 : Nat → Int32) (a25 : Nat → Int32) : (Nat → Int32) × (Nat → Int32) × (Nat → Int32) :=
  if u0.toInt < 0 then (f_x2_putMeaning_b_10 a23 a24 a25) else (f_x2_putMeaning_b_11 u0 u1 u2 u3 i9 a23 a24 a25)
noncomputable def F_x2_putMeaning (u0 : Int32) (u1 : Int32) (u2 : Int32) (u3 : Int32) (i9 : Int32) (a23 : Nat → Int32) (a24 : Nat → Int32) (a25 : Nat → Int32) : (Nat → Int32) × (Nat → Int32) × (Nat → Int32) :=
  let v_1 : Int32 := (F_x2_isFull i9)
  if v_1.toInt ≠ 0 then (f_x2_putMeaning_b_7 a23 a24 a25) else (f_x2_putMeaning_b_8 u0 u1 u2 u3 i9 a23 a24 a25)
noncomputable def f_x3_isBetween_b_2  : Int32 :=
  (0 : Int32)
noncomputable def f_x3_isBetween_b_6  : Int32 :=
  (0 : Int32)
noncomputable def f_x3_isBetween_b_8  : Int32 :=
  (1 : Int32)
noncomputable def f_x3_isBetween_b_4 (u0 : Int32) (u2 : Int32) : Int32 :=
  if u0.toInt > u2.toInt then f_x3_isBetween_b_6 else f_x3_isBetween_b_8
noncomputable def F_x3_isBetween (u0 : Int32) (u1 : Int32) (u2 : Int32) : Int32 :=
  if u0.toInt < u1.toInt then f_x3_isBetween_b_2 else (f_x3_isBetween_b_4 u0 u2)
noncomputable def f_x3_readNumber_b_22 (i14 : Int32) (i15 : Int32) (x_2 : Int32) (i13_5 : Int32) : Int32 × Int32 × Int32 × Int32 :=
  (x_2, i13_5, i14, i15)
noncomputable def f_x3_readNumber_b_20 (i14 : Int32) (i15 : Int32) (x_2 : Int32) (i13_5 : Int32) : Int32 × Int32 × Int32 × Int32 :=
  (f_x3_readNumber_b_22 i14 i15 x_2 i13_5)
noncomputable def f_x3_readNumber_b_35 (i13_5 : Int32) (i14_28 : Int32) (i15_29 : Int32) : Int32 × Int32 × Int32 × Int32 :=
  ((-1 : Int32), i13_5, i14_28, i15_29)
noncomputable def f_x3_readNumber_b_24 (i13 : Int32) (i13_5 : Int32) : Int32 × Int32 × Int32 × Int32 :=
  let i14_28 : Int32 := (F_x3_fail (3 : Int32) i13).2.1
  let i15_29 : Int32 := (F_x3_fail (3 : Int32) i13).2.2
  (f_x3_readNumber_b_35 i13_5 i14_28 i15_29)
noncomputable def f_x3_readNumber_b_18 (u0 : Int32) (i13 : Int32) (i14 : Int32) (i15 : Int32) (x_2 : Int32) (i13_5 : Int32) : Int32 × Int32 × Int32 × Int32 :=
  if x_2.toInt ≤ u0.toInt then (f_x3_readNumber_b_20 i14 i15 x_2 i13_5) else (f_x3_readNumber_b_24 i13 i13_5)
noncomputable def f_x3_readNumber_b_48 (i13_5 : Int32) (i14_41 : Int32) (i15_42 : Int32) : Int32 × Int32 × Int32 × Int32 :=
  ((-1 : Int32), i13_5, i14_41, i15_42)
noncomputable def f_x3_readNumber_b_37 (i13_5 : Int32) : Int32 × Int32 × Int32 × Int32 :=
  let i14_41 : Int32 := (F_x3_fail (2 : Int32) i13_5).2.1
  let i15_42 : Int32 := (F_x3_fail (2 : Int32) i13_5).2.2
  (f_x3_readNumber_b_48 i13_5 i14_41 i15_42)
noncomputable def f_x3_readNumber_b_8 (u0 : Int32) (i12 : Int32) (i13 : Int32) (i14 : Int32) (i15 : Int32) (a1 : Nat → Int32) (x_2 : Int32) (i13_5 : Int32) : Int32 × Int32 × Int32 × Int32 :=
  let v_9 : Int32 := (F_x3_sign i12 i13_5 a1)
  let v_13 : Int32 := (F_x3_isBetween v_9 (48 : Int32) (57 : Int32))
  if v_13.toInt = 0 then (f_x3_readNumber_b_18 u0 i13 i14 i15 x_2 i13_5) else (f_x3_readNumber_b_37 i13_5)
noncomputable def f_x3_readNumber_b_61 (i13_5 : Int32) (i14_54 : Int32) (i15_55 : Int32) : Int32 × Int32 × Int32 × Int32 :=
  ((-1 : Int32), i13_5, i14_54, i15_55)
noncomputable def f_x3_readNumber_b_50 (i13_5 : Int32) : Int32 × Int32 × Int32 × Int32 :=
  let i14_54 : Int32 := (F_x3_fail (1 : Int32) i13_5).2.1
  let i15_55 : Int32 := (F_x3_fail (1 : Int32) i13_5).2.2
  (f_x3_readNumber_b_61 i13_5 i14_54 i15_55)
noncomputable def f_x3_readNumber_J_6 (u0 : Int32) (i12 : Int32) (i13 : Int32) (i14 : Int32) (i15 : Int32) (a1 : Nat → Int32) (x_2 : Int32) (i13_5 : Int32) : Int32 × Int32 × Int32 × Int32 :=
  if i13_5.toInt ≠ i13.toInt then (f_x3_readNumber_b_8 u0 i12 i13 i14 i15 a1 x_2 i13_5) else (f_x3_readNumber_b_50 i13_5)
noncomputable def f_x3_readNumber_j6 (u0 : Int32) (i12 : Int32) (i13 : Int32) (i14 : Int32) (i15 : Int32) (a1 : Nat → Int32) (x_2 : Int32) (i13_5 : Int32) : Int32 × Int32 × Int32 × Int32 := f_x3_readNumber_J_6 u0 i12 i13 i14 i15 a1 x_2 i13_5
noncomputable def f_x3_readNumber_b_64 (u0 : Int32) (i12 : Int32) (i13 : Int32) (i14 : Int32) (i15 : Int32) (a1 : Nat → Int32) (x_2 : Int32) (i13_5 : Int32) : Int32 × Int32 × Int32 × Int32 :=
  f_x3_readNumber_j6 u0 i12 i13 i14 i15 a1 x_2 i13_5
noncomputable def f_x3_readNumber_b_75 (u0 : Int32) (i12 : Int32) (i13 : Int32) (i14 : Int32) (i15 : Int32) (a1 : Nat → Int32) (x_2 : Int32) (i13_5 : Int32) : Int32 × Int32 × Int32 × Int32 :=
  f_x3_readNumber_j6 u0 i12 i13 i14 i15 a1 x_2 i13_5
noncomputable def f_x3_readNumber_b_76 (i12 : Int32) (a1 : Nat → Int32) (x_2 : Int32) (x_3 : Int32) (i13_5 : Int32) (self_J_1 : Int32 → Int32 → Int32 → Int32 × Int32 × Int32 × Int32) : Int32 × Int32 × Int32 × Int32 :=
  let z_77 : Int32 := x_2 * (10 : Int32)
  let v_78 : Int32 := (F_x3_sign i12 i13_5 a1)
  let z_82 : Int32 := z_77 + v_78
  let z_83 : Int32 := z_82 - (48 : Int32)
  let z_84 : Int32 := i13_5 + (1 : Int32)
  let z_85 : Int32 := x_3 + Int32.ofInt 1
  self_J_1 z_83 z_85 z_84
noncomputable def f_x3_readNumber_b_65 (u0 : Int32) (i12 : Int32) (i13 : Int32) (i14 : Int32) (i15 : Int32) (a1 : Nat → Int32) (x_2 : Int32) (x_3 : Int32) (i13_5 : Int32) (self_J_1 : Int32 → Int32 → Int32 → Int32 × Int32 × Int32 × Int32) : Int32 × Int32 × Int32 × Int32 :=
  let v_66 : Int32 := (F_x3_sign i12 i13_5 a1)
  let v_70 : Int32 := (F_x3_isBetween v_66 (48 : Int32) (57 : Int32))
  if v_70.toInt = 0 then (f_x3_readNumber_b_75 u0 i12 i13 i14 i15 a1 x_2 i13_5) else (f_x3_readNumber_b_76 i12 a1 x_2 x_3 i13_5 self_J_1)
noncomputable def f_x3_readNumber_J_1 (u0 : Int32) (i12 : Int32) (i13 : Int32) (i14 : Int32) (i15 : Int32) (a1 : Nat → Int32) (x_2 : Int32) (x_3 : Int32) (i13_5 : Int32) (self_J_1 : Int32 → Int32 → Int32 → Int32 × Int32 × Int32 × Int32) : Int32 × Int32 × Int32 × Int32 :=
  if x_3.toInt ≥ 5 then (f_x3_readNumber_b_64 u0 i12 i13 i14 i15 a1 x_2 i13_5) else (f_x3_readNumber_b_65 u0 i12 i13 i14 i15 a1 x_2 x_3 i13_5 self_J_1)
noncomputable def f_x3_readNumber_j1 (u0 : Int32) (i12 : Int32) (i13 : Int32) (i14 : Int32) (i15 : Int32) (a1 : Nat → Int32) (n : Nat) : Int32 → Int32 → Int32 → Int32 × Int32 × Int32 × Int32 :=
  Nat.rec (motive := fun _ => Int32 → Int32 → Int32 → Int32 × Int32 × Int32 × Int32) (fun _ _ _ => (0, 0, 0, 0)) (fun _ sq_ x_2 x_3 i13_5 => f_x3_readNumber_J_1 u0 i12 i13 i14 i15 a1 x_2 x_3 i13_5 sq_) n
noncomputable def F_x3_readNumber (u0 : Int32) (i12 : Int32) (i13 : Int32) (i14 : Int32) (i15 : Int32) (a1 : Nat → Int32) : Int32 × Int32 × Int32 × Int32 :=
  f_x3_readNumber_j1 u0 i12 i13 i14 i15 a1 6 ((0 : Int32)) ((0 : Int32)) i13
noncomputable def f_x3_pass_b_6 (i13 : Int32) (i14 : Int32) (i15 : Int32) : Int32 × Int32 × Int32 × Int32 :=
  let z_7 : Int32 := i13 + (1 : Int32)
  ((1 : Int32), z_7, i14, i15)
noncomputable def f_x3_pass_b_9 (i13 : Int32) : Int32 × Int32 × Int32 × Int32 :=
  let v_10 : Int32 := (F_x3_fail (1 : Int32) i13).1
  let i14_13 : Int32 := (F_x3_fail (1 : Int32) i13).2.1
  let i15_14 : Int32 := (F_x3_fail (1 : Int32) i13).2.2
  (v_10, i13, i14_13, i15_14)
noncomputable def F_x3_pass (u0 : Int32) (i12 : Int32) (i13 : Int32) (i14 : Int32) (i15 : Int32) (a1 : Nat → Int32) : Int32 × Int32 × Int32 × Int32 :=
  let v_1 : Int32 := (F_x3_sign i12 i13 a1)
  if v_1.toInt = u0.toInt then (f_x3_pass_b_6 i13 i14 i15) else (f_x3_pass_b_9 i13)
noncomputable def f_x3_readTurning_b_12 (a23 : Nat → Int32) (a24 : Nat → Int32) (a25 : Nat → Int32) (i13_4 : Int32) (i14_5 : Int32) (i15_6 : Int32) : Int32 × Int32 × Int32 × Int32 × (Nat → Int32) × (Nat → Int32) × (Nat → Int32) :=
  ((0 : Int32), i13_4, i14_5, i15_6, a23, a24, a25)
noncomputable def f_x3_readTurning_b_73 (i13_56 : Int32) (i14_57 : Int32) (i15_58 : Int32) (a23_66 : Nat → Int32) (a24_67 : Nat → Int32) (a25_68 : Nat → Int32) : Int32 × Int32 × Int32 × Int32 × (Nat → Int32) × (Nat → Int32) × (Nat → Int32) :=
  ((0 : Int32), i13_56, i14_57, i15_58, a23_66, a24_67, a25_68)
noncomputable def f_x3_readTurning_b_75 (i13_56 : Int32) (i14_57 : Int32) (i15_58 : Int32) (a23_66 : Nat → Int32) (a24_67 : Nat → Int32) (a25_68 : Nat → Int32) : Int32 × Int32 × Int32 × Int32 × (Nat → Int32) × (Nat → Int32) × (Nat → Int32) :=
  ((1 : Int32), i13_56, i14_57, i15_58, a23_66, a24_67, a25_68)
noncomputable def f_x3_readTurning_b_52 (u0 : Int32) (i9 : Int32) (i12 : Int32) (a1 : Nat → Int32) (a23 : Nat → Int32) (a24 : Nat → Int32) (a25 : Nat → Int32) (v_1 : Int32) (y_38 : Int32) (i13_43 : Int32) (i14_44 : Int32) (i15_45 : Int32) : Int32 × Int32 × Int32 × Int32 × (Nat → Int32) × (Nat → Int32) × (Nat → Int32) :=
  let v_53 : Int32 := (F_x3_readNumber (79 : Int32) i12 i13_43 i14_44 i15_45 a1).1
  let i13_56 : Int32 := (F_x3_readNumber (79 : Int32) i12 i13_43 i14_44 i15_45 a1).2.1
  let i14_57 : Int32 := (F_x3_readNumber (79 : Int32) i12 i13_43 i14_44 i15_45 a1).2.2.1
  let i15_58 : Int32 := (F_x3_readNumber (79 : Int32) i12 i13_43 i14_44 i15_45 a1).2.2.2
  let a23_66 : Nat → Int32 := (F_x2_putMeaning u0 v_1 y_38 v_53 i9 a23 a24 a25).1
  let a24_67 : Nat → Int32 := (F_x2_putMeaning u0 v_1 y_38 v_53 i9 a23 a24 a25).2.1
  let a25_68 : Nat → Int32 := (F_x2_putMeaning u0 v_1 y_38 v_53 i9 a23 a24 a25).2.2
  if v_53.toInt = (-1) then (f_x3_readTurning_b_73 i13_56 i14_57 i15_58 a23_66 a24_67 a25_68) else (f_x3_readTurning_b_75 i13_56 i14_57 i15_58 a23_66 a24_67 a25_68)
noncomputable def f_x3_readTurning_b_77 (a23 : Nat → Int32) (a24 : Nat → Int32) (a25 : Nat → Int32) (i13_43 : Int32) (i14_44 : Int32) (i15_45 : Int32) : Int32 × Int32 × Int32 × Int32 × (Nat → Int32) × (Nat → Int32) × (Nat → Int32) :=
  ((0 : Int32), i13_43, i14_44, i15_45, a23, a24, a25)
noncomputable def f_x3_readTurning_J_37 (u0 : Int32) (i9 : Int32) (i12 : Int32) (a1 : Nat → Int32) (a23 : Nat → Int32) (a24 : Nat → Int32) (a25 : Nat → Int32) (v_1 : Int32) (i13_18 : Int32) (i14_19 : Int32) (i15_20 : Int32) (y_38 : Int32) : Int32 × Int32 × Int32 × Int32 × (Nat → Int32) × (Nat → Int32) × (Nat → Int32) :=
  let z_39 : Int32 := i13_18 + (1 : Int32)
  let v_40 : Int32 := (F_x3_pass (61 : Int32) i12 z_39 i14_19 i15_20 a1).1
  let i13_43 : Int32 := (F_x3_pass (61 : Int32) i12 z_39 i14_19 i15_20 a1).2.1
  let i14_44 : Int32 := (F_x3_pass (61 : Int32) i12 z_39 i14_19 i15_20 a1).2.2.1
  let i15_45 : Int32 := (F_x3_pass (61 : Int32) i12 z_39 i14_19 i15_20 a1).2.2.2
  if v_40.toInt ≠ 0 then (f_x3_readTurning_b_52 u0 i9 i12 a1 a23 a24 a25 v_1 y_38 i13_43 i14_44 i15_45) else (f_x3_readTurning_b_77 a23 a24 a25 i13_43 i14_44 i15_45)
