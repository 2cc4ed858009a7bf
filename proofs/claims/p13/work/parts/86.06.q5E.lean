/-! the reference's machine, step by step, with the code that it puts down -/
def cm (T : Nat → Int) : Nat → Nat → Nat → List Int → Nat → List IN
  | 0, _, _, _, _ => []
  | n + 1, 0, o, _, p => if T p = 91 then cm T n 1 (o + 1) [] (p + 1) else if 48 ≤ T p ∧ T p ≤ 57 then [(0, (spN T 99999 p).2.2)] else [(1, T p)]
  | n + 1, 1, o, L, p => cm T n 0 o [] p ++ (if opT (T (sp T n 0 o p).2) = true ∨ opS (T (sp T n 0 o p).2) = true then fE (opS (T (sp T n 0 o p).2)) L ++ cm T n 1 o (T (sp T n 0 o p).2 :: fR (opS (T (sp T n 0 o p).2)) L) ((sp T n 0 o p).2 + 1) else em L)
  | n + 1, 2, o, _, p => if T p = 33 then cm T n 2 (o + 1) [] (p + 1) ++ [(2, 0)] else if T p = 40 then cm T n 3 (o + 1) [] (p + 1) else cm T n 1 o [] p ++ (cm T n 1 o [] ((sp T n 1 o p).2 + 1) ++ [(T (sp T n 1 o p).2, 0)])
  | n + 1, _ + 3, o, L, p => cm T n 2 o [] p ++ (if opA (T (sp T n 2 o p).2) = true ∨ opO (T (sp T n 2 o p).2) = true then jE (opO (T (sp T n 2 o p).2)) L ++ cm T n 3 o (T (sp T n 2 o p).2 :: jR (opO (T (sp T n 2 o p).2)) L) ((sp T n 2 o p).2 + 1) else em L)
theorem cm_0 (T : Nat → Int) (n o : Nat) (L : List Int) (p : Nat) : cm T (n + 1) 0 o L p = if T p = 91 then cm T n 1 (o + 1) [] (p + 1) else if 48 ≤ T p ∧ T p ≤ 57 then [(0, (spN T 99999 p).2.2)] else [(1, T p)] := rfl
theorem cm_1 (T : Nat → Int) (n o : Nat) (L : List Int) (p : Nat) : cm T (n + 1) 1 o L p = cm T n 0 o [] p ++ (if opT (T (sp T n 0 o p).2) = true ∨ opS (T (sp T n 0 o p).2) = true then fE (opS (T (sp T n 0 o p).2)) L ++ cm T n 1 o (T (sp T n 0 o p).2 :: fR (opS (T (sp T n 0 o p).2)) L) ((sp T n 0 o p).2 + 1) else em L) := rfl
theorem cm_2 (T : Nat → Int) (n o : Nat) (L : List Int) (p : Nat) : cm T (n + 1) 2 o L p = if T p = 33 then cm T n 2 (o + 1) [] (p + 1) ++ [(2, 0)] else if T p = 40 then cm T n 3 (o + 1) [] (p + 1) else cm T n 1 o [] p ++ (cm T n 1 o [] ((sp T n 1 o p).2 + 1) ++ [(T (sp T n 1 o p).2, 0)]) := rfl
theorem cm_3 (T : Nat → Int) (n o : Nat) (L : List Int) (p : Nat) : cm T (n + 1) 3 o L p = cm T n 2 o [] p ++ (if opA (T (sp T n 2 o p).2) = true ∨ opO (T (sp T n 2 o p).2) = true then jE (opO (T (sp T n 2 o p).2)) L ++ cm T n 3 o (T (sp T n 2 o p).2 :: jR (opO (T (sp T n 2 o p).2)) L) ((sp T n 2 o p).2 + 1) else em L) := rfl
abbrev P9 := Int32 × Int32 × Int32 × Int32 × Int32 × Int32 × (Nat → Int32) × (Nat → Int32) × (Nat → Int32)
abbrev P8 := Int32 × Int32 × Int32 × Int32 × Int32 × (Nat → Int32) × (Nat → Int32) × (Nat → Int32)
abbrev P10 := Int32 × Int32 × Int32 × Int32 × Int32 × Int32 × Int32 × (Nat → Int32) × (Nat → Int32) × (Nat → Int32)
def KP (n p : Nat) (S : List Int) (i9 i14 i15 : Int32) (a : Nat → Int32) : Prop := i9.toInt = (p : Int) ∧ i14.toInt = (cn S : Int) ∧ i15.toInt = (S.length : Int) ∧ SK a S ∧ S.length ≤ p ∧ p ≤ n
noncomputable def GO (r i10 : Int32) (a1 : Nat → Int32) (n : Nat) (i9 i11 i13 i14 i15 : Int32) (v w a : Nat → Int32) : P9 := f_m12_piece_j320 r i10 a1 (f_m12_piece_j242 r i10 a1 n) i9 i11 i13 i14 i15 v w a
noncomputable def gof (r i10 : Int32) (a1 : Nat → Int32) (n : Nat) (t : P8) : P9 := GO r i10 a1 n t.1 t.2.1 t.2.2.1 t.2.2.2.1 t.2.2.2.2.1 t.2.2.2.2.2.1 t.2.2.2.2.2.2.1 t.2.2.2.2.2.2.2
noncomputable def FXa (r i10 : Int32) (a1 : Nat → Int32) (m n : Nat) (i9 i11 i13 i14 i15 : Int32) (v w a : Nat → Int32) : P9 := gof r i10 a1 n (f_m12_factor_j1 r i10 i13 a1 v w m i9 i11 i14 i15 a)
noncomputable def plt (r i10 : Int32) (a1 : Nat → Int32) (n : Nat) (t : P10) : P9 := if t.1.toInt = 0 then f_m12_piece_j242 r i10 a1 n 0 t.2.1 t.2.2.1 t.2.2.2.1 t.2.2.2.2.1 t.2.2.2.2.2.1 t.2.2.2.2.2.2.1 t.2.2.2.2.2.2.2.1 t.2.2.2.2.2.2.2.2.1 t.2.2.2.2.2.2.2.2.2 else f_m12_piece_j242 r i10 a1 n 1 t.2.1 t.2.2.1 t.2.2.2.1 t.2.2.2.2.1 t.2.2.2.2.2.1 t.2.2.2.2.2.2.1 t.2.2.2.2.2.2.2.1 t.2.2.2.2.2.2.2.2.1 t.2.2.2.2.2.2.2.2.2
def cX (X : P9) : C3 := (X.2.2.1, X.2.2.2.2.2.2.1, X.2.2.2.2.2.2.2.1)
section MST
variable {r i10 i9 i11 i13 i14 i15 i17 x : Int32} {a1 v w a : Nat → Int32} {n m : Nat}
theorem PL_e : f_m12_piece_j242 r i10 a1 (n + 1) x i9 i11 i13 i14 i15 i17 v w a = if x.toInt = 0 then (if (F_m12_isGood i11).toInt = 0 then (i9, i11, i13, i14, i15, i17, v, w, a) else (i9, i11, (F_m12_ends r i11 i13 i14 i15 v w a).1, (F_m12_ends r i11 i13 i14 i15 v w a).2.1, (F_m12_ends r i11 i13 i14 i15 v w a).2.2.1, i17, (F_m12_ends r i11 i13 i14 i15 v w a).2.2.2.1, (F_m12_ends r i11 i13 i14 i15 v w a).2.2.2.2, a)) else if (F_m12_isGood i11).toInt = 0 then (i9, i11, i13, i14, i15, i17, v, w, a) else if i17.toInt ≠ 0 then GO r i10 a1 n i9 i11 i13 i14 i15 v w a else FXa r i10 a1 180 n i9 i11 i13 i14 i15 v w a := rfl
theorem PL_bad (h : i11.toInt ≠ 0) : f_m12_piece_j242 r i10 a1 (n + 1) x i9 i11 i13 i14 i15 i17 v w a = (i9, i11, i13, i14, i15, i17, v, w, a) := by
  rw [PL_e, good0 h, if_pos y00, if_pos y00]
  split <;> rfl
theorem PL_0 (h : i11.toInt = 0) {t : Q5} (ht : F_m12_ends r i11 i13 i14 i15 v w a = t) : f_m12_piece_j242 r i10 a1 (n + 1) 0 i9 i11 i13 i14 i15 i17 v w a = (i9, i11, t.1, t.2.1, t.2.2.1, i17, t.2.2.2.1, t.2.2.2.2, a) := by
  subst ht
  rw [PL_e, if_pos y00, good1 h, if_neg n10]
theorem PL_1 (h : i11.toInt = 0) : f_m12_piece_j242 r i10 a1 (n + 1) 1 i9 i11 i13 i14 i15 0 v w a = FXa r i10 a1 180 n i9 i11 i13 i14 i15 v w a := by
  rw [PL_e, if_neg n10, good1 h, if_neg n10, if_neg n00]
theorem PL_1b (h : i11.toInt = 0) : f_m12_piece_j242 r i10 a1 (n + 1) 1 i9 i11 i13 i14 i15 1 v w a = GO r i10 a1 n i9 i11 i13 i14 i15 v w a := by
  rw [PL_e, if_neg n10, good1 h, if_neg n10, if_pos y10]
theorem GO_bad (h : i11.toInt ≠ 0) : GO r i10 a1 (n + 1) i9 i11 i13 i14 i15 v w a = (i9, i11, i13, i14, i15, 0, v, w, a) := by
  show (if (F_m12_isGood i11).toInt = 0 then f_m12_piece_j242 r i10 a1 (n + 1) 0 i9 i11 i13 i14 i15 0 v w a else _) = _
  rw [good0 h, if_pos y00]
  exact PL_bad h
theorem GO_good (h : i11.toInt = 0) : GO r i10 a1 n i9 i11 i13 i14 i15 v w a = plt r i10 a1 n (F_m12_goesOn r i9 i10 i11 i13 i14 i15 0 a1 v w a) := by
  show (if (F_m12_isGood i11).toInt = 0 then _ else plt r i10 a1 n (F_m12_goesOn r i9 i10 i11 i13 i14 i15 0 a1 v w a)) = _
  rw [good1 h, if_neg n10]
theorem go_op (h : (F_m12_here i9 i10 a1).toInt = 42 ∨ (F_m12_here i9 i10 a1).toInt = 47 ∨ (F_m12_here i9 i10 a1).toInt = 37 ∨ (F_m12_here i9 i10 a1).toInt = 43 ∨ (F_m12_here i9 i10 a1).toInt = 45) {t : Q4} (ht : F_m12_sums (F_m12_isPlus (F_m12_here i9 i10 a1)) r i11 i13 i15 v w a = t) :
    F_m12_goesOn r i9 i10 i11 i13 i14 i15 i17 a1 v w a = ((1 : Int32), i9 + 1, i11, t.1, i14, t.2.1 + 1, i17, t.2.2.1, t.2.2.2, upd a t.2.1.toNatClampNeg (F_m12_here i9 i10 a1)) := by
  subst ht
  show (if (F_m12_isTimes (F_m12_here i9 i10 a1)).toInt ≠ 0 then _ else if (F_m12_isPlus (F_m12_here i9 i10 a1)).toInt = 0 then _ else _) = _
  rcases tim (v := F_m12_here i9 i10 a1) with ⟨q, e⟩ | ⟨q, e⟩
  · rw [e, if_pos y10]; rfl
  · rw [e, if_neg n00]
    rcases plu (v := F_m12_here i9 i10 a1) with ⟨q2, e2⟩ | ⟨q2, e2⟩
    · rw [if_neg (show ¬ (F_m12_isPlus (F_m12_here i9 i10 a1)).toInt = 0 by rw [e2]; exact n10)]; rfl
    · omega
theorem go_nop1 (h : nop (F_m12_here i9 i10 a1).toInt) {X Y Z : P10} : (if (F_m12_isTimes (F_m12_here i9 i10 a1)).toInt ≠ 0 then X else if (F_m12_isPlus (F_m12_here i9 i10 a1)).toInt = 0 then Y else Z) = Y := by
  have hno : ¬ ((F_m12_here i9 i10 a1).toInt = 42 ∨ (F_m12_here i9 i10 a1).toInt = 47 ∨ (F_m12_here i9 i10 a1).toInt = 37 ∨ (F_m12_here i9 i10 a1).toInt = 43 ∨ (F_m12_here i9 i10 a1).toInt = 45) := h
  rcases tim (v := F_m12_here i9 i10 a1) with ⟨q, e⟩ | ⟨q, e⟩
  · omega
  · rw [e, if_neg n00]
    rcases plu (v := F_m12_here i9 i10 a1) with ⟨q, e⟩ | ⟨q, e⟩
    · omega
    · rw [e, if_pos y00]
theorem g59_rb (hc : (F_m12_here i9 i10 a1).toInt = 93) {t : Q4} (ht : F_m12_sums 1 r i11 i13 i15 v w a = t) : F_m12_goesOn r i9 i10 i11 i13 i14 i15 i17 a1 v w a = if (F_m12_top t.2.1 a).toInt = 91 then ((1 : Int32), i9 + 1, i11, t.1, i14 - 1, t.2.1 - 1, (1 : Int32), t.2.2.1, t.2.2.2, a) else ((0 : Int32), i9, F_m12_fails 1 i9 i11, t.1, i14, t.2.1, i17, t.2.2.1, t.2.2.2, a) := by
  subst ht
  refine (go_nop1 (by intro z; omega)).trans ?_
  show (if (F_m12_here i9 i10 a1).toInt ≠ 93 then _ else _) = _
  rw [if_neg (by omega)]
  rfl
theorem g59_sg (hc : (F_m12_here i9 i10 a1).toInt = 60 ∨ (F_m12_here i9 i10 a1).toInt = 62 ∨ (F_m12_here i9 i10 a1).toInt = 61) {t : Q4} (ht : F_m12_sums 1 r i11 i13 i15 v w a = t) : F_m12_goesOn r i9 i10 i11 i13 i14 i15 i17 a1 v w a = ((1 : Int32), i9 + 1, (if (F_m12_top t.2.1 a).toInt = 91 ∨ (F_m12_isSign (F_m12_top t.2.1 a)).toInt ≠ 0 then F_m12_fails 1 i9 i11 else i11), t.1, i14, t.2.1 + 1, i17, t.2.2.1, t.2.2.2, upd a t.2.1.toNatClampNeg (F_m12_here i9 i10 a1)) := by
  subst ht
  refine (go_nop1 (by intro z; omega)).trans ?_
  show (if (F_m12_here i9 i10 a1).toInt ≠ 93 then (if (F_m12_isSign (F_m12_here i9 i10 a1)).toInt = 0 then _ else if (F_m12_top (F_m12_sums 1 r i11 i13 i15 v w a).2.1 a).toInt = 91 then ((1 : Int32), i9 + 1, F_m12_fails 1 i9 i11, (F_m12_sums 1 r i11 i13 i15 v w a).1, i14, (F_m12_sums 1 r i11 i13 i15 v w a).2.1 + 1, i17, (F_m12_sums 1 r i11 i13 i15 v w a).2.2.1, (F_m12_sums 1 r i11 i13 i15 v w a).2.2.2, upd a (F_m12_sums 1 r i11 i13 i15 v w a).2.1.toNatClampNeg (F_m12_here i9 i10 a1)) else if (F_m12_isSign (F_m12_top (F_m12_sums 1 r i11 i13 i15 v w a).2.1 a)).toInt = 0 then ((1 : Int32), i9 + 1, i11, (F_m12_sums 1 r i11 i13 i15 v w a).1, i14, (F_m12_sums 1 r i11 i13 i15 v w a).2.1 + 1, i17, (F_m12_sums 1 r i11 i13 i15 v w a).2.2.1, (F_m12_sums 1 r i11 i13 i15 v w a).2.2.2, upd a (F_m12_sums 1 r i11 i13 i15 v w a).2.1.toNatClampNeg (F_m12_here i9 i10 a1)) else ((1 : Int32), i9 + 1, F_m12_fails 1 i9 i11, (F_m12_sums 1 r i11 i13 i15 v w a).1, i14, (F_m12_sums 1 r i11 i13 i15 v w a).2.1 + 1, i17, (F_m12_sums 1 r i11 i13 i15 v w a).2.2.1, (F_m12_sums 1 r i11 i13 i15 v w a).2.2.2, upd a (F_m12_sums 1 r i11 i13 i15 v w a).2.1.toNatClampNeg (F_m12_here i9 i10 a1))) else _) = _
  rw [if_pos (by omega)]
  rcases sig (v := F_m12_here i9 i10 a1) with ⟨q, e⟩ | ⟨q, e⟩
  · rw [e, if_neg n10]
    by_cases w1 : (F_m12_top (F_m12_sums 1 r i11 i13 i15 v w a).2.1 a).toInt = 91
    · rw [if_pos w1, if_pos (Or.inl w1)]
    · rw [if_neg w1]
      by_cases w2 : (F_m12_isSign (F_m12_top (F_m12_sums 1 r i11 i13 i15 v w a).2.1 a)).toInt = 0
      · rw [if_pos w2, if_neg (fun q => q.elim w1 (fun q => q w2))]
      · rw [if_neg w2, if_pos (Or.inr w2)]
  · omega
theorem g59_el (hn : nop (F_m12_here i9 i10 a1).toInt) (hc : ¬ ((F_m12_here i9 i10 a1).toInt = 60 ∨ (F_m12_here i9 i10 a1).toInt = 62 ∨ (F_m12_here i9 i10 a1).toInt = 61)) (h9 : (F_m12_here i9 i10 a1).toInt ≠ 93) {t : Q4} (ht : F_m12_sums 1 r i11 i13 i15 v w a = t) : F_m12_goesOn r i9 i10 i11 i13 i14 i15 i17 a1 v w a = if (F_m12_isSign (F_m12_top t.2.1 a)).toInt = 0 then ((0 : Int32), i9, F_m12_fails 1 i9 i11, t.1, i14, t.2.1, i17, t.2.2.1, t.2.2.2, a) else ((0 : Int32), i9, i11, (F_m12_emit (F_m12_top t.2.1 a) 0 r i11 t.1 t.2.2.1 t.2.2.2).1, i14, t.2.1 - 1, i17, (F_m12_emit (F_m12_top t.2.1 a) 0 r i11 t.1 t.2.2.1 t.2.2.2).2.1, (F_m12_emit (F_m12_top t.2.1 a) 0 r i11 t.1 t.2.2.1 t.2.2.2).2.2, a) := by
  subst ht
  refine (go_nop1 hn).trans ?_
  show (if (F_m12_here i9 i10 a1).toInt ≠ 93 then (if (F_m12_isSign (F_m12_here i9 i10 a1)).toInt = 0 then _ else _) else _) = _
  rw [if_pos h9]
  rcases sig (v := F_m12_here i9 i10 a1) with ⟨q, e⟩ | ⟨q, e⟩
  · omega
  · rw [e, if_pos y00]
    rfl
theorem fac_21 : f_m12_factor_J_21 r i10 i13 a1 v w i9 i11 i14 i15 a = if (F_m12_isGood i11).toInt ≠ 0 then (if (F_m12_seesDigit i9 i10 a1).toInt = 0 then (if (F_m12_isValue (F_m12_here i9 i10 a1)).toInt = 0 then (i9, F_m12_fails 1 i9 i11, i13, i14, i15, v, w, a) else (i9 + 1, i11, (F_m12_emit 1 (F_m12_here i9 i10 a1) r i11 i13 v w).1, i14, i15, (F_m12_emit 1 (F_m12_here i9 i10 a1) r i11 i13 v w).2.1, (F_m12_emit 1 (F_m12_here i9 i10 a1) r i11 i13 v w).2.2, a)) else ((F_m12_readsNumber 99999 i9 i10 i11 a1).2.1, (F_m12_readsNumber 99999 i9 i10 i11 a1).2.2, (F_m12_emit 0 (F_m12_readsNumber 99999 i9 i10 i11 a1).1 r (F_m12_readsNumber 99999 i9 i10 i11 a1).2.2 i13 v w).1, i14, i15, (F_m12_emit 0 (F_m12_readsNumber 99999 i9 i10 i11 a1).1 r (F_m12_readsNumber 99999 i9 i10 i11 a1).2.2 i13 v w).2.1, (F_m12_emit 0 (F_m12_readsNumber 99999 i9 i10 i11 a1).1 r (F_m12_readsNumber 99999 i9 i10 i11 a1).2.2 i13 v w).2.2, a)) else (i9, i11, i13, i14, i15, v, w, a) := rfl
theorem op_6 (h : i14.toInt = 6) : F_m12_opens i9 i10 i11 i14 i15 a1 a = (i9 + 1, F_m12_fails 5 i9 i11, i14 + 1, i15 + 1, upd a i15.toNatClampNeg (F_m12_here i9 i10 a1)) := by
  have e0 : F_m12_opens i9 i10 i11 i14 i15 a1 a = if i14.toInt ≠ 6 then (i9 + 1, i11, i14 + 1, i15 + 1, upd a i15.toNatClampNeg (F_m12_here i9 i10 a1)) else (i9 + 1, F_m12_fails 5 i9 i11, i14 + 1, i15 + 1, upd a i15.toNatClampNeg (F_m12_here i9 i10 a1)) := rfl
  rw [e0, if_neg (by omega)]
theorem op_o (h : i14.toInt ≠ 6) : F_m12_opens i9 i10 i11 i14 i15 a1 a = (i9 + 1, i11, i14 + 1, i15 + 1, upd a i15.toNatClampNeg (F_m12_here i9 i10 a1)) := by
  have e0 : F_m12_opens i9 i10 i11 i14 i15 a1 a = if i14.toInt ≠ 6 then (i9 + 1, i11, i14 + 1, i15 + 1, upd a i15.toNatClampNeg (F_m12_here i9 i10 a1)) else (i9 + 1, F_m12_fails 5 i9 i11, i14 + 1, i15 + 1, upd a i15.toNatClampNeg (F_m12_here i9 i10 a1)) := rfl
  rw [e0, if_pos h]
theorem fac_e1 (hg : i11.toInt = 0) (hc : (F_m12_here i9 i10 a1).toInt = 91) : f_m12_factor_j1 r i10 i13 a1 v w (m + 1) i9 i11 i14 i15 a = f_m12_factor_j1 r i10 i13 a1 v w m (F_m12_opens i9 i10 i11 i14 i15 a1 a).1 (F_m12_opens i9 i10 i11 i14 i15 a1 a).2.1 (F_m12_opens i9 i10 i11 i14 i15 a1 a).2.2.1 (F_m12_opens i9 i10 i11 i14 i15 a1 a).2.2.2.1 (F_m12_opens i9 i10 i11 i14 i15 a1 a).2.2.2.2 := by
  show (if (F_m12_isGood i11).toInt = 0 then _ else if (F_m12_here i9 i10 a1).toInt ≠ 91 then _ else _) = _
  rw [good1 hg, if_neg n10, if_neg (by omega)]
  rfl
theorem fac_e2 (hc : i11.toInt ≠ 0 ∨ (F_m12_here i9 i10 a1).toInt ≠ 91) : f_m12_factor_j1 r i10 i13 a1 v w (m + 1) i9 i11 i14 i15 a = f_m12_factor_J_21 r i10 i13 a1 v w i9 i11 i14 i15 a := by
  show (if (F_m12_isGood i11).toInt = 0 then f_m12_factor_J_21 r i10 i13 a1 v w i9 i11 i14 i15 a else if (F_m12_here i9 i10 a1).toInt ≠ 91 then f_m12_factor_J_21 r i10 i13 a1 v w i9 i11 i14 i15 a else _) = _
  by_cases h : (F_m12_isGood i11).toInt = 0
  · rw [if_pos h]
  · rw [if_neg h]
    rcases hc with z | z
    · exact absurd (by rw [good0 z]; exact y00) h
    · rw [if_pos z]
theorem FA_o (hg : i11.toInt = 0) (hc : (F_m12_here i9 i10 a1).toInt = 91) (h : i14.toInt ≠ 6) : FXa r i10 a1 (m + 1) n i9 i11 i13 i14 i15 v w a = FXa r i10 a1 m n (i9 + 1) i11 i13 (i14 + 1) (i15 + 1) v w (upd a i15.toNatClampNeg (F_m12_here i9 i10 a1)) := by
  unfold FXa
  rw [fac_e1 hg hc, op_o h]
theorem FA_6 (hg : i11.toInt = 0) (hc : (F_m12_here i9 i10 a1).toInt = 91) (h : i14.toInt = 6) (h9 : 0 ≤ i9.toInt ∧ i9.toInt ≤ 1000) : FXa r i10 a1 (m + 2) (n + 1) i9 i11 i13 i14 i15 v w a = (i9 + 1, F_m12_fails 5 i9 i11, i13, i14 + 1, i15 + 1, 0, v, w, upd a i15.toNatClampNeg (F_m12_here i9 i10 a1)) := by
  have c5 : (5 : Int32).toInt = 5 := by decide
  have eb := fl0 (f := 5) (a := i9) hg (by omega) h9
  unfold FXa
  rw [fac_e1 hg hc, op_6 h]
  dsimp only
  rw [fac_e2 (Or.inl (by omega)), fac_21, good0 (by omega), if_neg n00]
  exact GO_bad (show (F_m12_fails 5 i9 i11).toInt ≠ 0 by omega)
theorem FA_a (hg : i11.toInt = 0) (hc : (F_m12_here i9 i10 a1).toInt ≠ 91) : FXa r i10 a1 (m + 1) n i9 i11 i13 i14 i15 v w a = gof r i10 a1 n (if (F_m12_seesDigit i9 i10 a1).toInt = 0 then (if (F_m12_isValue (F_m12_here i9 i10 a1)).toInt = 0 then (i9, F_m12_fails 1 i9 i11, i13, i14, i15, v, w, a) else (i9 + 1, i11, (F_m12_emit 1 (F_m12_here i9 i10 a1) r i11 i13 v w).1, i14, i15, (F_m12_emit 1 (F_m12_here i9 i10 a1) r i11 i13 v w).2.1, (F_m12_emit 1 (F_m12_here i9 i10 a1) r i11 i13 v w).2.2, a)) else ((F_m12_readsNumber 99999 i9 i10 i11 a1).2.1, (F_m12_readsNumber 99999 i9 i10 i11 a1).2.2, (F_m12_emit 0 (F_m12_readsNumber 99999 i9 i10 i11 a1).1 r (F_m12_readsNumber 99999 i9 i10 i11 a1).2.2 i13 v w).1, i14, i15, (F_m12_emit 0 (F_m12_readsNumber 99999 i9 i10 i11 a1).1 r (F_m12_readsNumber 99999 i9 i10 i11 a1).2.2 i13 v w).2.1, (F_m12_emit 0 (F_m12_readsNumber 99999 i9 i10 i11 a1).1 r (F_m12_readsNumber 99999 i9 i10 i11 a1).2.2 i13 v w).2.2, a)) := by
  unfold FXa
  rw [fac_e2 (Or.inr hc), fac_21, good1 hg, if_pos y10]
theorem emit_bad {p0 p1 : Int32} (h : i11.toInt ≠ 0) : F_m12_emit p0 p1 r i11 i13 v w = (i13, v, w) := by
  have e0 : F_m12_emit p0 p1 r i11 i13 v w = if (F_m12_isGood i11).toInt ≠ 0 then ((i13 + (1 : Int32)), (upd v (((160 : Int32) * r) + i13).toNatClampNeg p0), (upd w (((160 : Int32) * r) + i13).toNatClampNeg p1)) else (i13, v, w) := rfl
  rw [e0, good0 h, if_neg n00]
end MST
theorem KP_push {n p : Nat} {S : List Int} {i9 i14 i15 x : Int32} {a : Nat → Int32} {c : Int} (hn : n ≤ 160) (h : KP n p S i9 i14 i15 a) (hp : p < n) (hx : x.toInt = c) (hc : c = 40 ∨ c = 91 ∨ c = 33) : KP n (p + 1) (c :: S) (i9 + 1) (i14 + 1) (i15 + 1) (upd a i15.toNatClampNeg x) := by
  obtain ⟨h1, h2, h3, h4, h5, h6⟩ := h
  have hl := cn_l S
  refine ⟨suc_of h1 (by omega), ?_, suc_of h3 (by omega), ?_, by show S.length + 1 ≤ p + 1; omega, by omega⟩
  · rw [cn_y hc]; exact suc_of h2 (by omega)
  · rw [nc h3]; exact SK_push h4 hx
/-- a sign is put upon what stands (which was popped to S) -/
theorem KP_put {n p : Nat} {S : List Int} {i9 i14 d x : Int32} {a : Nat → Int32} {c : Int} (hn : n ≤ 160) (h1 : i9.toInt = (p : Int)) (h2 : i14.toInt = (cn S : Int)) (h3 : d.toInt = (S.length : Int)) (h4 : SK a S) (h5 : S.length ≤ p) (hp : p < n) (hx : x.toInt = c) (hc : ¬ (c = 40 ∨ c = 91 ∨ c = 33)) : KP n (p + 1) (c :: S) (i9 + 1) i14 (d + 1) (upd a d.toNatClampNeg x) := by
  refine ⟨suc_of h1 (by omega), ?_, suc_of h3 (by omega), ?_, by show S.length + 1 ≤ p + 1; omega, by omega⟩
  · rw [cn_n hc]; exact h2
  · rw [nc h3]; exact SK_push h4 hx
theorem CD_frm {r : Int32} {b c : Nat → Int32} {E : List IN} {k : C3} (h : CD r b c E k) : FRM r b c k := h.2.2.2.2
theorem plusP {v : Int32} {c : Int} (h : v.toInt = c) : opS c = true ↔ (F_m12_isPlus v).toInt ≠ 0 := by
  rcases plu (v := v) with ⟨q, e⟩ | ⟨q, e⟩
  · rw [e]; exact ⟨fun _ => y10, fun _ => decide_eq_true (by omega)⟩
  · rw [e]; exact ⟨fun z => by have := opS_i z; omega, fun z => absurd y00 z⟩
theorem oneP : true = true ↔ (1 : Int32).toInt ≠ 0 := ⟨fun _ => y10, fun _ => rfl⟩
theorem zeroP : false = true ↔ (0 : Int32).toInt ≠ 0 := ⟨fun z => absurd z (by decide), fun z => absurd y00 z⟩
/-- all the signs that wait are put down -/
theorem sums_all {d r i11 i13 : Int32} {b c a v w : Nat → Int32} {h : Int} {S L : List Int} {E : List IN} (hg : i11.toInt = 0) (hn : nop h) (ho : AO L) (hl : (L ++ h :: S).length ≤ 160) (hd : d.toInt = ((L ++ h :: S).length : Int)) (hs : SK a (L ++ h :: S)) (hC : CD r b c E (i13, v, w)) (hE : E.length + L.length ≤ 160) :
    ∃ t : Q4, F_m12_sums 1 r i11 i13 d v w a = t ∧ SO r b c (E ++ em L) a (h :: S) t := by
  have H : SO r b c (E ++ fE true L) a (fR true L ++ h :: S) (F_m12_sums 1 r i11 i13 d v w a) := sums_of (k := (i13, v, w)) (p0 := 1) hg oneP hn ho hl hd hs hC hE
  rw [fR_t, fE_t] at H
  exact ⟨_, rfl, H⟩
/-- what a run to 'behind a sum' comes to -/
def MR (T : Nat → Int) (n : Nat) (r i10 : Int32) (a1 : Nat → Int32) (i11 : Int32) (b c : Nat → Int32) (h : Int) (S : List Int) (W : List IN) (q : Int × Nat) (X : P9) : Prop :=
  (q.1 < 0 ∧ X.2.1.toInt = q.1 ∧ FRM r b c (cX X)) ∨ (q.1 = 0 ∧ nop (T q.2) ∧ ∃ (f : Nat) (L : List Int) (E : List IN) (i9 i13 i14 i15 : Int32) (v w a : Nat → Int32), X = GO r i10 a1 f i9 i11 i13 i14 i15 v w a ∧ AO L ∧ KP n q.2 (L ++ h :: S) i9 i14 i15 a ∧ 401 ≤ f + q.2 ∧ CD r b c E (i13, v, w) ∧ E.length + (L ++ h :: S).length ≤ q.2 ∧ E ++ em L = W)
/-- what a run to 'behind a factor' comes to -/
def MF (n : Nat) (r i10 : Int32) (a1 : Nat → Int32) (i11 : Int32) (b c : Nat → Int32) (S : List Int) (W : List IN) (q : Int × Nat) (X : P9) : Prop :=
  (q.1 < 0 ∧ X.2.1.toInt = q.1 ∧ FRM r b c (cX X)) ∨ (q.1 = 0 ∧ ∃ (f : Nat) (i9 i13 i14 i15 : Int32) (v w a : Nat → Int32), X = GO r i10 a1 f i9 i11 i13 i14 i15 v w a ∧ KP n q.2 S i9 i14 i15 a ∧ 401 ≤ f + q.2 ∧ CD r b c W (i13, v, w) ∧ W.length + S.length ≤ q.2)
def MFS (T : Nat → Int) (n : Nat) (r i10 : Int32) (a1 : Nat → Int32) (i11 : Int32) (b c : Nat → Int32) (k : Nat) : Prop := ∀ (p m f : Nat) (S : List Int) (E : List IN) (i9 i13 i14 i15 : Int32) (v w a : Nat → Int32), KP n p S i9 i14 i15 a → CD r b c E (i13, v, w) → E.length + S.length ≤ p → cn S ≤ 6 → 1 ≤ cn S → 4 * (n + 1 - p) + 0 < k → 170 ≤ m + p → 400 ≤ f + p → MF n r i10 a1 i11 b c S (E ++ cm T k 0 (cn S) [] p) (sp T k 0 (cn S) p) (FXa r i10 a1 m f i9 i11 i13 i14 i15 v w a)
def MSS (T : Nat → Int) (n : Nat) (r i10 : Int32) (a1 : Nat → Int32) (i11 : Int32) (b c : Nat → Int32) (k : Nat) : Prop := ∀ (p m f : Nat) (h : Int) (L S : List Int) (E : List IN) (i9 i13 i14 i15 : Int32) (v w a : Nat → Int32), nop h → AO L → KP n p (L ++ h :: S) i9 i14 i15 a → CD r b c E (i13, v, w) → E.length + (L ++ h :: S).length ≤ p → cn (h :: S) ≤ 6 → 1 ≤ cn (h :: S) → 4 * (n + 1 - p) + 1 < k → 170 ≤ m + p → 400 ≤ f + p → MR T n r i10 a1 i11 b c h S (E ++ cm T k 1 (cn (h :: S)) L p) (sp T k 1 (cn (h :: S)) p) (FXa r i10 a1 m f i9 i11 i13 i14 i15 v w a)
/-- behind a factor: the rest of the sum -/
theorem m_tail {T : Nat → Int} {n k : Nat} {r i10 i11 : Int32} {a1 b c : Nat → Int32} (hT : TXT T n) (hx : TXM T n i10 a1) (hg : i11.toInt = 0) (ih : MSS T n r i10 a1 i11 b c k) {p f : Nat} {h : Int} {L S : List Int} {E : List IN} {i9 i13 i14 i15 : Int32} {v w a : Nat → Int32} (hh : nop h) (hL : AO L) (hK : KP n p (L ++ h :: S) i9 i14 i15 a) (hC : CD r b c E (i13, v, w)) (hE : E.length + (L ++ h :: S).length ≤ p) (h6 : cn (h :: S) ≤ 6) (h1 : 1 ≤ cn (h :: S)) (hk : 4 * (n + 1 - p) + 0 < k) (hf : 401 ≤ f + p) :
    MR T n r i10 a1 i11 b c h S (E ++ (if opT (T p) = true ∨ opS (T p) = true then fE (opS (T p)) L ++ cm T k 1 (cn (h :: S)) (T p :: fR (opS (T p)) L) (p + 1) else em L)) (if opT (T p) = true ∨ opS (T p) = true then sp T k 1 (cn (h :: S)) (p + 1) else (0, p)) (GO r i10 a1 f i9 i11 i13 i14 i15 v w a) := by
  have h160 := hT.1
  have hK0 := hK
  obtain ⟨k1, k2, k3, k4, k5, k6⟩ := hK
  have hr := hr_of hT hx k1
  by_cases w0 : opT (T p) = true ∨ opS (T p) = true
  · rw [if_pos w0, if_pos w0]
    have wo : T p = 42 ∨ T p = 47 ∨ T p = 37 ∨ T p = 43 ∨ T p = 45 := by
      rcases w0 with w0 | w0
      · have := opT_i w0; omega
      · have := opS_i w0; omega
    have hpn := T_in hT (p := p) (by omega)
    have hl1 := len_app (L := L) (h := h) (S := S)
    have hl2 := len_app (L := fR (opS (T p)) L) (h := h) (S := S)
    have hl3 := fRE_len (p := opS (T p)) L
    have H : SO r b c (E ++ fE (opS (T p)) L) a (fR (opS (T p)) L ++ h :: S) (F_m12_sums (F_m12_isPlus (F_m12_here i9 i10 a1)) r i11 i13 i15 v w a) := sums_of (k := (i13, v, w)) hg (plusP hr) hh hL (by omega) k3 k4 hC (by omega)
    obtain ⟨t, ht⟩ : ∃ t, F_m12_sums (F_m12_isPlus (F_m12_here i9 i10 a1)) r i11 i13 i15 v w a = t := ⟨_, rfl⟩
    rw [ht] at H
    rw [GO_good hg, go_op (by omega) ht]
    obtain ⟨g3, g4, g5⟩ := H
    obtain ⟨f, rfl⟩ : ∃ q, f = q + 1 := ⟨f - 1, by omega⟩
    unfold plt
    rw [if_neg n10]
    dsimp only
    rw [PL_1 hg]
    have hK2 : KP n (p + 1) (T p :: (fR (opS (T p)) L ++ h :: S)) (i9 + 1) i14 (t.2.1 + 1) (upd a t.2.1.toNatClampNeg (F_m12_here i9 i10 a1)) :=
      KP_put h160 k1 (by rw [cn_ao (fR_ao hL)]; rw [cn_ao hL] at k2; exact k2) g3 g4 (by omega) hpn hr (by omega)
    have hle : (E ++ fE (opS (T p)) L).length = E.length + (fE (opS (T p)) L).length := List.length_append
    have R := ih (p + 1) 180 f h (T p :: fR (opS (T p)) L) S (E ++ fE (opS (T p)) L) (i9 + 1) t.1 i14 _ t.2.2.1 t.2.2.2 _ hh (AO_c wo (fR_ao hL)) hK2 g5 (by show (E ++ fE (opS (T p)) L).length + ((fR (opS (T p)) L ++ h :: S).length + 1) ≤ p + 1; omega) h6 h1 (by omega) (by omega) (by omega)
    rw [List.append_assoc] at R
    exact R
  · rw [if_neg w0, if_neg w0]
    refine Or.inr ⟨rfl, ?_, f, L, E, i9, i13, i14, i15, v, w, a, rfl, hL, hK0, hf, hC, hE, rfl⟩
    intro q
    have q1 := opT_o (fun z => w0 (Or.inl z))
    have q2 := opS_o (fun z => w0 (Or.inr z))
    show False
    have q' : T p = 42 ∨ T p = 47 ∨ T p = 37 ∨ T p = 43 ∨ T p = 45 := q
    omega
theorem m_fac {T : Nat → Int} {n k : Nat} {r i10 i11 : Int32} {a1 b c : Nat → Int32} (hT : TXT T n) (hx : TXM T n i10 a1) (hg : i11.toInt = 0) (ih : MSS T n r i10 a1 i11 b c k) : MFS T n r i10 a1 i11 b c (k + 1) := by
  have h160 := hT.1
  intro p m f S E i9 i13 i14 i15 v w a hK hC hE h6 h1 hk hm hf
  have hK0 := hK
  obtain ⟨k1, k2, k3, k4, k5, k6⟩ := hK
  have hr := hr_of hT hx k1
  obtain ⟨m, rfl⟩ : ∃ q, m = q + 2 := ⟨m - 2, by omega⟩
  obtain ⟨f, rfl⟩ : ∃ q, f = q + 1 := ⟨f - 1, by omega⟩
  rw [sp_0, cm_0]
  by_cases h91 : T p = 91
  · rw [if_pos h91, if_pos h91]
    have hpn := T_in hT (p := p) (by omega)
    by_cases ho : 6 ≤ cn S
    · rw [if_pos ho]
      have c5 : (5 : Int32).toInt = 5 := by decide
      have eb := fl0 (f := 5) (a := i9) hg (by omega) (by omega)
      exact Or.inl ⟨by show -5000 - (p : Int) < 0; omega, by rw [FA_6 hg (by omega) (by omega) (by omega)]; show (F_m12_fails 5 i9 i11).toInt = -5000 - (p : Int); omega, by rw [FA_6 hg (by omega) (by omega) (by omega)]; exact CD_frm hC⟩
    · rw [if_neg ho, FA_o hg (by omega) (by omega)]
      have hK2 := KP_push h160 hK0 hpn (show (F_m12_here i9 i10 a1).toInt = 91 by omega) (by omega)
      have hc : cn (91 :: S) = cn S + 1 := cn_y (by omega)
      have H := ih (p + 1) (m + 1) (f + 1) 91 [] S E _ _ _ _ _ _ _ (by intro q; omega) AO_n hK2 hC (by show E.length + (S.length + 1) ≤ p + 1; omega) (by omega) (by omega) (by omega) (by omega) (by omega)
      rw [hc] at H
      rcases H with ⟨r1, r2, r3⟩ | ⟨r1, r2, f2, L, E2, j9, j13, j14, j15, v2, w2, b2, e, eL, eK, ef, eC, eE, eW⟩
      · rw [seq_n r1]; exact Or.inl ⟨r1, r2, r3⟩
      · rw [seq_y r1, e, ← eW]
        generalize (sp T k 1 (cn S + 1) (p + 1)).2 = q at r2 eK ef eE
        obtain ⟨q1, q2, q3, q4, q5, q6⟩ := eK
        have hr2 := hr_of hT hx q1
        have r2' : ¬ (T q = 42 ∨ T q = 47 ∨ T q = 37 ∨ T q = 43 ∨ T q = 45) := r2
        have hl1 := len_app (L := L) (h := 91) (S := S)
        obtain ⟨t, ht, g3, g4, g5⟩ := sums_all (h := 91) hg (by intro z; omega) eL (by omega) q3 q4 eC (by omega)
        have g3 : t.2.1.toInt = ((S.length + 1 : Nat) : Int) := g3
        have htp := tp_c g3 g4 (by omega)
        rw [cn_ao eL, hc] at q2
        obtain ⟨f2, rfl⟩ : ∃ q, f2 = q + 1 := ⟨f2 - 1, by omega⟩
        have hle : (E2 ++ em L).length = E2.length + (em L).length := List.length_append
        have hel := em_len L
        rw [GO_good hg]
        show MF n r i10 a1 i11 b c S (E2 ++ em L) (if T q = 93 then (0, q + 1) else (-1000 - (q : Int), q)) _
        by_cases w0 : T q = 93
        · have hqn := T_in hT (p := q) (by omega)
          rw [if_pos w0, g59_rb (by omega) ht, if_pos htp]
          unfold plt
          rw [if_neg n10]
          dsimp only
          rw [PL_1b hg]
          exact Or.inr ⟨rfl, f2, j9 + 1, t.1, j14 - 1, t.2.1 - 1, t.2.2.1, t.2.2.2, b2, rfl, ⟨suc_of q1 (by omega), pred_of q2 (by omega), pred_of g3 (by omega), g4.2, by show S.length ≤ q + 1; omega, hqn⟩, by show 401 ≤ f2 + (q + 1); omega, g5, by show (E2 ++ em L).length + S.length ≤ q + 1; omega⟩
        · rw [if_neg w0]
          have eb := fl0 (f := 1) (a := j9) hg (by rw [c1]; omega) (by omega)
          have c1' := c1
          by_cases w3 : T q = 60 ∨ T q = 62 ∨ T q = 61
          · rw [g59_sg (by omega) ht, if_pos (Or.inl htp)]
            unfold plt
            rw [if_neg n10]
            dsimp only
            rw [PL_bad (by omega)]
            exact Or.inl ⟨by show -1000 - (q : Int) < 0; omega, by show (F_m12_fails 1 j9 i11).toInt = -1000 - (q : Int); omega, CD_frm g5⟩
          · rw [g59_el (by intro z; omega) (by omega) (by omega) ht]
            rcases sig (v := F_m12_top t.2.1 b2) with ⟨z, e⟩ | ⟨z, e⟩
            · omega
            · rw [e, if_pos y00]
              unfold plt
              rw [if_pos y00]
              dsimp only
              rw [PL_bad (by omega)]
              exact Or.inl ⟨by show -1000 - (q : Int) < 0; omega, by show (F_m12_fails 1 j9 i11).toInt = -1000 - (q : Int); omega, CD_frm g5⟩
  · rw [if_neg h91, if_neg h91, FA_a hg (by omega)]
    rcases sd hT hx k1 with ⟨d1, d2, d⟩ | ⟨d1, d⟩
    · rw [if_pos ⟨d1, d2⟩, if_pos ⟨d1, d2⟩, d, if_neg n10]
      have c9 : (99999 : Int32).toInt = 99999 := by decide
      have N := mnum (p0 := 99999) hT hx k1 k6 (by rw [c9]; decide) hg
      rw [c9] at N
      rcases N with ⟨m1, m2, m3, m4⟩ | ⟨m1, m2⟩
      · have s := spN_at hT k6 m1
        have e11 : (F_m12_readsNumber 99999 i9 i10 i11 a1).2.2 = i11 := eq_of_toInt (by omega)
        have hC2 := CD_emit (p0 := 0) (p1 := (F_m12_readsNumber 99999 i9 i10 i11 a1).1) hC (by omega) hg c0 m2
        have hsn := snoc_len (E := E) (x := (0, (spN T 99999 p).2.2))
        rw [e11]
        exact Or.inr ⟨m1, f + 1, (F_m12_readsNumber 99999 i9 i10 i11 a1).2.1, _, i14, i15, _, _, a, rfl, ⟨m3, k2, k3, k4, by show S.length ≤ (spN T 99999 p).2.1; omega, s.2.1⟩, by show 401 ≤ f + 1 + (spN T 99999 p).2.1; omega, hC2, by show (E ++ [(0, (spN T 99999 p).2.2)]).length + S.length ≤ (spN T 99999 p).2.1; omega⟩
      · rw [emit_bad (by omega)]
        have e9 : gof r i10 a1 (f + 1) ((F_m12_readsNumber 99999 i9 i10 i11 a1).2.1, (F_m12_readsNumber 99999 i9 i10 i11 a1).2.2, i13, i14, i15, v, w, a) = _ := GO_bad (show (F_m12_readsNumber 99999 i9 i10 i11 a1).2.2.toInt ≠ 0 by omega)
        refine Or.inl ⟨m1, ?_, ?_⟩
        · rw [e9]; exact m2
        · rw [e9]; exact CD_frm hC
    · rw [if_neg d1, if_neg d1, d, if_pos y00]
      rcases val (v := F_m12_here i9 i10 a1) with ⟨v1, vv⟩ | ⟨v1, vv⟩
      · rw [vv, if_neg n10, if_pos (by omega)]
        have hpn := T_in hT (p := p) (by omega)
        have hC2 := CD_emit (p0 := 1) (p1 := F_m12_here i9 i10 a1) hC (by omega) hg c1 hr
        have hsn := snoc_len (E := E) (x := (1, T p))
        exact Or.inr ⟨rfl, f + 1, i9 + 1, _, i14, i15, _, _, a, rfl, ⟨suc_of k1 (by omega), k2, k3, k4, by show S.length ≤ p + 1; omega, hpn⟩, by show 401 ≤ f + 1 + (p + 1); omega, hC2, by show (E ++ [(1, T p)]).length + S.length ≤ p + 1; omega⟩
      · rw [vv, if_pos y00, if_neg (by omega)]
        have eb := fl0 (f := 1) (a := i9) hg (by rw [c1]; omega) (by omega)
        have c1' := c1
        have e9 : gof r i10 a1 (f + 1) (i9, F_m12_fails 1 i9 i11, i13, i14, i15, v, w, a) = _ := GO_bad (show (F_m12_fails 1 i9 i11).toInt ≠ 0 by omega)
        refine Or.inl ⟨by show -1000 - (p : Int) < 0; omega, ?_, ?_⟩
        · rw [e9]; show (F_m12_fails 1 i9 i11).toInt = -1000 - (p : Int); omega
        · rw [e9]; exact CD_frm hC
theorem m_sum {T : Nat → Int} {n k : Nat} {r i10 i11 : Int32} {a1 b c : Nat → Int32} (hT : TXT T n) (hx : TXM T n i10 a1) (hg : i11.toInt = 0) (ih : MSS T n r i10 a1 i11 b c k) (ihf : MFS T n r i10 a1 i11 b c k) : MSS T n r i10 a1 i11 b c (k + 1) := by
  intro p m f h L S E i9 i13 i14 i15 v w a hh hL hK hC hE h6 h1 hk hm hf
  have hK0 := hK
  obtain ⟨k1, k2, k3, k4, k5, k6⟩ := hK
  have ec : cn (L ++ h :: S) = cn (h :: S) := cn_ao hL
  have H := ihf p m f (L ++ h :: S) E i9 i13 i14 i15 v w a hK0 hC hE (by omega) (by omega) (by omega) hm hf
  have H2 := sp_ok hT k 0 (cn (h :: S)) p (by omega) k6 (by omega)
  rw [ec] at H
  rw [sp_1, cm_1, ← List.append_assoc]
  rcases H with ⟨r1, r2, r3⟩ | ⟨r1, f2, j9, j13, j14, j15, v2, w2, b2, e, eK, ef, eC, eE⟩
  · rw [seq_n r1]; exact Or.inl ⟨r1, r2, r3⟩
  · rw [seq_y r1, e]
    rcases H2 with ⟨_, s2, s3⟩ | s
    · exact m_tail hT hx hg ih hh hL eK eC eE h6 h1 (by omega) ef
    · omega
theorem m_sums {T : Nat → Int} {n : Nat} {r i10 i11 : Int32} {a1 b c : Nat → Int32} (hT : TXT T n) (hx : TXM T n i10 a1) (hg : i11.toInt = 0) : ∀ k, MSS T n r i10 a1 i11 b c k ∧ MFS T n r i10 a1 i11 b c k := by
  intro k
  induction k with
  | zero => exact ⟨fun _ _ _ _ _ _ _ _ _ _ _ _ _ _ _ _ _ _ _ _ _ h _ _ => by omega, fun _ _ _ _ _ _ _ _ _ _ _ _ _ _ _ _ _ h _ _ => by omega⟩
  | succ k ih => exact ⟨m_sum hT hx hg ih.1 ih.2, m_fac hT hx hg ih.1⟩
