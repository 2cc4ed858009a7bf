/-! the reference's machine, step by step -/
abbrev P5 := Int32 × Int32 × Int32 × Int32 × (Nat → Int32)
abbrev P6 := Int32 × Int32 × Int32 × Int32 × Int32 × (Nat → Int32)
abbrev P7 := Int32 × Int32 × Int32 × Int32 × Int32 × Int32 × (Nat → Int32)
def KP (n p : Nat) (S : List Int) (i9 i14 i15 : Int32) (a : Nat → Int32) : Prop := i9.toInt = (p : Int) ∧ i14.toInt = (cn S : Int) ∧ i15.toInt = (S.length : Int) ∧ SK a S ∧ S.length ≤ p ∧ p ≤ n
def GO (i10 : Int32) (a1 : Nat → Int32) (n : Nat) (i9 i11 i14 i15 : Int32) (a : Nat → Int32) : P6 := f_m12_piece_j301 i10 a1 (f_m12_piece_j228 i10 a1 n) i9 i11 i14 i15 a
def gof (i10 : Int32) (a1 : Nat → Int32) (n : Nat) (t : P5) : P6 := GO i10 a1 n t.1 t.2.1 t.2.2.1 t.2.2.2.1 t.2.2.2.2
def FXa (i10 : Int32) (a1 : Nat → Int32) (m n : Nat) (i9 i11 i14 i15 : Int32) (a : Nat → Int32) : P6 := gof i10 a1 n (f_m12_factor_j1 i10 a1 m i9 i11 i14 i15 a)
def plt (i10 : Int32) (a1 : Nat → Int32) (n : Nat) (t : P7) : P6 := if t.1.toInt = 0 then f_m12_piece_j228 i10 a1 n 0 t.2.1 t.2.2.1 t.2.2.2.1 t.2.2.2.2.1 t.2.2.2.2.2.1 t.2.2.2.2.2.2 else f_m12_piece_j228 i10 a1 n 1 t.2.1 t.2.2.1 t.2.2.2.1 t.2.2.2.2.1 t.2.2.2.2.2.1 t.2.2.2.2.2.2
section MST
variable {i10 i9 i11 i14 i15 i17 x c : Int32} {a1 a : Nat → Int32} {n m : Nat}
theorem PL_e : f_m12_piece_j228 i10 a1 (n + 1) x i9 i11 i14 i15 i17 a = if x.toInt = 0 then (if (F_m12_isGood i11).toInt = 0 then (i9, i11, i14, i15, i17, a) else (i9, i11, (F_m12_ends i14 i15 a).1, (F_m12_ends i14 i15 a).2, i17, a)) else if (F_m12_isGood i11).toInt = 0 then (i9, i11, i14, i15, i17, a) else if i17.toInt ≠ 0 then GO i10 a1 n i9 i11 i14 i15 a else FXa i10 a1 180 n i9 i11 i14 i15 a := rfl
theorem PL_bad (h : i11.toInt ≠ 0) : (f_m12_piece_j228 i10 a1 (n + 1) x i9 i11 i14 i15 i17 a).2.1 = i11 := by
  rw [PL_e, good0 h, if_pos y00, if_pos y00]
  split <;> rfl
theorem PL_0 (h : i11.toInt = 0) : f_m12_piece_j228 i10 a1 (n + 1) 0 i9 i11 i14 i15 i17 a = (i9, i11, (F_m12_ends i14 i15 a).1, (F_m12_ends i14 i15 a).2, i17, a) := by
  rw [PL_e, if_pos y00, good1 h, if_neg n10]
theorem PL_1 (h : i11.toInt = 0) : f_m12_piece_j228 i10 a1 (n + 1) 1 i9 i11 i14 i15 0 a = FXa i10 a1 180 n i9 i11 i14 i15 a := by
  rw [PL_e, if_neg n10, good1 h, if_neg n10, if_neg n00]
theorem PL_1b (h : i11.toInt = 0) : f_m12_piece_j228 i10 a1 (n + 1) 1 i9 i11 i14 i15 1 a = GO i10 a1 n i9 i11 i14 i15 a := by
  rw [PL_e, if_neg n10, good1 h, if_neg n10, if_pos y10]
theorem GO_bad (h : i11.toInt ≠ 0) : (GO i10 a1 (n + 1) i9 i11 i14 i15 a).2.1 = i11 := by
  have e0 : GO i10 a1 (n + 1) i9 i11 i14 i15 a = if (F_m12_isGood i11).toInt = 0 then f_m12_piece_j228 i10 a1 (n + 1) 0 i9 i11 i14 i15 0 a else f_m12_piece_b_330 i10 a1 (f_m12_piece_j228 i10 a1 (n + 1)) i9 i11 i14 i15 a := rfl
  rw [e0, good0 h, if_pos y00]
  exact PL_bad h
theorem GO_good (h : i11.toInt = 0) : GO i10 a1 n i9 i11 i14 i15 a = plt i10 a1 n (F_m12_goesOn i9 i10 i11 i14 i15 0 a1 a) := by
  have e0 : GO i10 a1 n i9 i11 i14 i15 a = if (F_m12_isGood i11).toInt = 0 then f_m12_piece_j228 i10 a1 n 0 i9 i11 i14 i15 0 a else plt i10 a1 n (F_m12_goesOn i9 i10 i11 i14 i15 0 a1 a) := rfl
  rw [e0, good1 h, if_neg n10]
theorem go_op (h : (F_m12_here i9 i10 a1).toInt = 42 ∨ (F_m12_here i9 i10 a1).toInt = 47 ∨ (F_m12_here i9 i10 a1).toInt = 37 ∨ (F_m12_here i9 i10 a1).toInt = 43 ∨ (F_m12_here i9 i10 a1).toInt = 45) :
    F_m12_goesOn i9 i10 i11 i14 i15 i17 a1 a = ((1 : Int32), i9 + 1, i11, i14, F_m12_sums (F_m12_isPlus (F_m12_here i9 i10 a1)) i15 a + 1, i17, upd a (F_m12_sums (F_m12_isPlus (F_m12_here i9 i10 a1)) i15 a).toNatClampNeg (F_m12_here i9 i10 a1)) := by
  have e0 : F_m12_goesOn i9 i10 i11 i14 i15 i17 a1 a = if (F_m12_isTimes (F_m12_here i9 i10 a1)).toInt ≠ 0 then ((1 : Int32), i9 + 1, i11, i14, F_m12_sums (F_m12_isPlus (F_m12_here i9 i10 a1)) i15 a + 1, i17, upd a (F_m12_sums (F_m12_isPlus (F_m12_here i9 i10 a1)) i15 a).toNatClampNeg (F_m12_here i9 i10 a1)) else if (F_m12_isPlus (F_m12_here i9 i10 a1)).toInt = 0 then f_m12_goesOn_b_59 i9 i11 i14 i15 i17 a (F_m12_here i9 i10 a1) else ((1 : Int32), i9 + 1, i11, i14, F_m12_sums (F_m12_isPlus (F_m12_here i9 i10 a1)) i15 a + 1, i17, upd a (F_m12_sums (F_m12_isPlus (F_m12_here i9 i10 a1)) i15 a).toNatClampNeg (F_m12_here i9 i10 a1)) := rfl
  rw [e0]
  by_cases w : (F_m12_isTimes (F_m12_here i9 i10 a1)).toInt ≠ 0
  · rw [if_pos w]
  · rw [if_neg w]
    rcases plu (v := F_m12_here i9 i10 a1) with ⟨q, e⟩ | ⟨q, e⟩
    · rw [if_neg (by rw [e]; exact n10)]
    · rcases tim (v := F_m12_here i9 i10 a1) with ⟨q2, e2⟩ | ⟨q2, e2⟩
      · exact absurd (by rw [e2]; exact y10) w
      · omega
theorem go_nop (h : nop (F_m12_here i9 i10 a1).toInt) : F_m12_goesOn i9 i10 i11 i14 i15 i17 a1 a = f_m12_goesOn_b_59 i9 i11 i14 i15 i17 a (F_m12_here i9 i10 a1) := by
  have hno : ¬ ((F_m12_here i9 i10 a1).toInt = 42 ∨ (F_m12_here i9 i10 a1).toInt = 47 ∨ (F_m12_here i9 i10 a1).toInt = 37 ∨ (F_m12_here i9 i10 a1).toInt = 43 ∨ (F_m12_here i9 i10 a1).toInt = 45) := h
  have e0 : F_m12_goesOn i9 i10 i11 i14 i15 i17 a1 a = if (F_m12_isTimes (F_m12_here i9 i10 a1)).toInt ≠ 0 then f_m12_goesOn_b_11 i9 i11 i14 i15 i17 a (F_m12_here i9 i10 a1) else if (F_m12_isPlus (F_m12_here i9 i10 a1)).toInt = 0 then f_m12_goesOn_b_59 i9 i11 i14 i15 i17 a (F_m12_here i9 i10 a1) else f_m12_goesOn_b_240 i9 i11 i14 i15 i17 a (F_m12_here i9 i10 a1) := rfl
  rw [e0]
  rcases tim (v := F_m12_here i9 i10 a1) with ⟨q, e⟩ | ⟨q, e⟩
  · omega
  · rw [e, if_neg n00]
    rcases plu (v := F_m12_here i9 i10 a1) with ⟨q, e⟩ | ⟨q, e⟩
    · omega
    · rw [e, if_pos y00]
theorem g59_rb (hc : c.toInt = 93) : f_m12_goesOn_b_59 i9 i11 i14 i15 i17 a c = if (F_m12_top (F_m12_sums 1 i15 a) a).toInt = 91 then ((1 : Int32), i9 + 1, i11, i14 - 1, F_m12_sums 1 i15 a - 1, (1 : Int32), a) else ((0 : Int32), i9, F_m12_fails 1 i9 i11, i14, F_m12_sums 1 i15 a, i17, a) := by
  have e0 : f_m12_goesOn_b_59 i9 i11 i14 i15 i17 a c = if c.toInt ≠ 93 then f_m12_goesOn_b_81 i9 i11 i14 i17 a c (F_m12_sums 1 i15 a) else if (F_m12_top (F_m12_sums 1 i15 a) a).toInt = 91 then ((1 : Int32), i9 + 1, i11, i14 - 1, F_m12_sums 1 i15 a - 1, (1 : Int32), a) else ((0 : Int32), i9, F_m12_fails 1 i9 i11, i14, F_m12_sums 1 i15 a, i17, a) := rfl
  rw [e0, if_neg (by omega)]
theorem g59_sg (hc : c.toInt = 60 ∨ c.toInt = 62 ∨ c.toInt = 61) : f_m12_goesOn_b_59 i9 i11 i14 i15 i17 a c = ((1 : Int32), i9 + 1, (if (F_m12_top (F_m12_sums 1 i15 a) a).toInt = 91 ∨ (F_m12_isSign (F_m12_top (F_m12_sums 1 i15 a) a)).toInt ≠ 0 then F_m12_fails 1 i9 i11 else i11), i14, F_m12_sums 1 i15 a + 1, i17, upd a (F_m12_sums 1 i15 a).toNatClampNeg c) := by
  have e0 : f_m12_goesOn_b_59 i9 i11 i14 i15 i17 a c = if c.toInt ≠ 93 then (if (F_m12_isSign c).toInt = 0 then f_m12_goesOn_b_87 i9 i11 i14 i17 a (F_m12_sums 1 i15 a) else if (F_m12_top (F_m12_sums 1 i15 a) a).toInt = 91 then ((1 : Int32), i9 + 1, F_m12_fails 1 i9 i11, i14, F_m12_sums 1 i15 a + 1, i17, upd a (F_m12_sums 1 i15 a).toNatClampNeg c) else if (F_m12_isSign (F_m12_top (F_m12_sums 1 i15 a) a)).toInt = 0 then ((1 : Int32), i9 + 1, i11, i14, F_m12_sums 1 i15 a + 1, i17, upd a (F_m12_sums 1 i15 a).toNatClampNeg c) else ((1 : Int32), i9 + 1, F_m12_fails 1 i9 i11, i14, F_m12_sums 1 i15 a + 1, i17, upd a (F_m12_sums 1 i15 a).toNatClampNeg c)) else f_m12_goesOn_b_215 i9 i11 i14 i17 a (F_m12_sums 1 i15 a) := rfl
  rw [e0, if_pos (by omega)]
  rcases sig (v := c) with ⟨q, e⟩ | ⟨q, e⟩
  · rw [e, if_neg n10]
    by_cases w : (F_m12_top (F_m12_sums 1 i15 a) a).toInt = 91
    · rw [if_pos w, if_pos (Or.inl w)]
    · rw [if_neg w]
      by_cases w2 : (F_m12_isSign (F_m12_top (F_m12_sums 1 i15 a) a)).toInt = 0
      · rw [if_pos w2, if_neg (fun q => q.elim w (fun q => q w2))]
      · rw [if_neg w2, if_pos (Or.inr w2)]
  · omega
theorem g59_el (hc : ¬ (c.toInt = 60 ∨ c.toInt = 62 ∨ c.toInt = 61)) (h9 : c.toInt ≠ 93) : f_m12_goesOn_b_59 i9 i11 i14 i15 i17 a c = if (F_m12_isSign (F_m12_top (F_m12_sums 1 i15 a) a)).toInt = 0 then ((0 : Int32), i9, F_m12_fails 1 i9 i11, i14, F_m12_sums 1 i15 a, i17, a) else ((0 : Int32), i9, i11, i14, F_m12_sums 1 i15 a - 1, i17, a) := by
  have e0 : f_m12_goesOn_b_59 i9 i11 i14 i15 i17 a c = if c.toInt ≠ 93 then (if (F_m12_isSign c).toInt = 0 then (if (F_m12_isSign (F_m12_top (F_m12_sums 1 i15 a) a)).toInt = 0 then ((0 : Int32), i9, F_m12_fails 1 i9 i11, i14, F_m12_sums 1 i15 a, i17, a) else ((0 : Int32), i9, i11, i14, F_m12_sums 1 i15 a - 1, i17, a)) else f_m12_goesOn_b_132 i9 i11 i14 i17 a c (F_m12_sums 1 i15 a)) else f_m12_goesOn_b_215 i9 i11 i14 i17 a (F_m12_sums 1 i15 a) := rfl
  rw [e0, if_pos h9]
  rcases sig (v := c) with ⟨q, e⟩ | ⟨q, e⟩
  · omega
  · rw [e, if_pos y00]
theorem fac_e1 (hg : i11.toInt = 0) (hc : (F_m12_here i9 i10 a1).toInt = 91) : f_m12_factor_j1 i10 a1 (m + 1) i9 i11 i14 i15 a = f_m12_factor_j1 i10 a1 m (F_m12_opens i9 i10 i11 i14 i15 a1 a).1 (F_m12_opens i9 i10 i11 i14 i15 a1 a).2.1 (F_m12_opens i9 i10 i11 i14 i15 a1 a).2.2.1 (F_m12_opens i9 i10 i11 i14 i15 a1 a).2.2.2.1 (F_m12_opens i9 i10 i11 i14 i15 a1 a).2.2.2.2 := by
  show (if (F_m12_isGood i11).toInt = 0 then _ else if (F_m12_here i9 i10 a1).toInt ≠ 91 then _ else _) = _
  rw [good1 hg, if_neg n10, if_neg (by omega)]
  rfl
theorem fac_e2 (hc : i11.toInt ≠ 0 ∨ (F_m12_here i9 i10 a1).toInt ≠ 91) : f_m12_factor_j1 i10 a1 (m + 1) i9 i11 i14 i15 a = f_m12_factor_J_21 i10 a1 i9 i11 i14 i15 a := by
  show (if (F_m12_isGood i11).toInt = 0 then f_m12_factor_J_21 i10 a1 i9 i11 i14 i15 a else if (F_m12_here i9 i10 a1).toInt ≠ 91 then f_m12_factor_J_21 i10 a1 i9 i11 i14 i15 a else _) = _
  by_cases h : (F_m12_isGood i11).toInt = 0
  · rw [if_pos h]
  · rw [if_neg h]
    rcases hc with z | z
    · exact absurd (by rw [good0 z]; exact y00) h
    · rw [if_pos z]
theorem fac_21 : f_m12_factor_J_21 i10 a1 i9 i11 i14 i15 a = if (F_m12_isGood i11).toInt ≠ 0 then (if (F_m12_seesDigit i9 i10 a1).toInt = 0 then (if (F_m12_isValue (F_m12_here i9 i10 a1)).toInt = 0 then (i9, F_m12_fails 1 i9 i11, i14, i15, a) else (i9 + 1, i11, i14, i15, a)) else ((F_m12_readsNumber 99999 i9 i10 i11 a1).2.1, (F_m12_readsNumber 99999 i9 i10 i11 a1).2.2, i14, i15, a)) else (i9, i11, i14, i15, a) := rfl
theorem op_6 (h : i14.toInt = 6) : F_m12_opens i9 i10 i11 i14 i15 a1 a = (i9 + 1, F_m12_fails 5 i9 i11, i14 + 1, i15 + 1, upd a i15.toNatClampNeg (F_m12_here i9 i10 a1)) := by
  have e0 : F_m12_opens i9 i10 i11 i14 i15 a1 a = if i14.toInt ≠ 6 then (i9 + 1, i11, i14 + 1, i15 + 1, upd a i15.toNatClampNeg (F_m12_here i9 i10 a1)) else (i9 + 1, F_m12_fails 5 i9 i11, i14 + 1, i15 + 1, upd a i15.toNatClampNeg (F_m12_here i9 i10 a1)) := rfl
  rw [e0, if_neg (by omega)]
theorem op_o (h : i14.toInt ≠ 6) : F_m12_opens i9 i10 i11 i14 i15 a1 a = (i9 + 1, i11, i14 + 1, i15 + 1, upd a i15.toNatClampNeg (F_m12_here i9 i10 a1)) := by
  have e0 : F_m12_opens i9 i10 i11 i14 i15 a1 a = if i14.toInt ≠ 6 then (i9 + 1, i11, i14 + 1, i15 + 1, upd a i15.toNatClampNeg (F_m12_here i9 i10 a1)) else (i9 + 1, F_m12_fails 5 i9 i11, i14 + 1, i15 + 1, upd a i15.toNatClampNeg (F_m12_here i9 i10 a1)) := rfl
  rw [e0, if_pos h]
theorem FA_o (hg : i11.toInt = 0) (hc : (F_m12_here i9 i10 a1).toInt = 91) (h : i14.toInt ≠ 6) : FXa i10 a1 (m + 1) n i9 i11 i14 i15 a = FXa i10 a1 m n (i9 + 1) i11 (i14 + 1) (i15 + 1) (upd a i15.toNatClampNeg (F_m12_here i9 i10 a1)) := by
  unfold FXa
  rw [fac_e1 hg hc, op_o h]
theorem FA_6 (hg : i11.toInt = 0) (hc : (F_m12_here i9 i10 a1).toInt = 91) (h : i14.toInt = 6) (h9 : 0 ≤ i9.toInt ∧ i9.toInt ≤ 1000) : (FXa i10 a1 (m + 2) (n + 1) i9 i11 i14 i15 a).2.1.toInt = -5000 - i9.toInt := by
  have c5 : (5 : Int32).toInt = 5 := by decide
  have eb := fl0 (f := 5) (a := i9) hg (by omega) h9
  unfold FXa
  rw [fac_e1 hg hc, op_6 h]
  dsimp only
  rw [fac_e2 (Or.inl (by omega)), fac_21, good0 (by omega), if_neg n00]
  show (GO i10 a1 (n + 1) (i9 + 1) (F_m12_fails 5 i9 i11) (i14 + 1) (i15 + 1) (upd a i15.toNatClampNeg (F_m12_here i9 i10 a1))).2.1.toInt = _
  rw [GO_bad (by omega)]; omega
theorem FA_a (hg : i11.toInt = 0) (hc : (F_m12_here i9 i10 a1).toInt ≠ 91) : FXa i10 a1 (m + 1) n i9 i11 i14 i15 a = gof i10 a1 n (if (F_m12_seesDigit i9 i10 a1).toInt = 0 then (if (F_m12_isValue (F_m12_here i9 i10 a1)).toInt = 0 then (i9, F_m12_fails 1 i9 i11, i14, i15, a) else (i9 + 1, i11, i14, i15, a)) else ((F_m12_readsNumber 99999 i9 i10 i11 a1).2.1, (F_m12_readsNumber 99999 i9 i10 i11 a1).2.2, i14, i15, a)) := by
  unfold FXa
  rw [fac_e2 (Or.inr hc), fac_21, good1 hg, if_pos y10]
end MST
theorem KP_push {n p : Nat} {S : List Int} {i9 i14 i15 x : Int32} {a : Nat → Int32} {c : Int} (hn : n ≤ 160) (h : KP n p S i9 i14 i15 a) (hp : p < n) (hx : x.toInt = c) (hc : c = 40 ∨ c = 91 ∨ c = 33) : KP n (p + 1) (c :: S) (i9 + 1) (i14 + 1) (i15 + 1) (upd a i15.toNatClampNeg x) := by
  obtain ⟨h1, h2, h3, h4, h5, h6⟩ := h
  have hl := cn_l S
  refine ⟨suc_of h1 (by omega), ?_, suc_of h3 (by omega), ?_, by show S.length + 1 ≤ p + 1; omega, by omega⟩
  · rw [cn_y hc]; exact suc_of h2 (by omega)
  · rw [nc h3]; exact SK_push h4 hx
/-- a sign is put upon what stands (which was popped to S) -/
theorem KP_put {n p : Nat} {S : List Int} {i9 i14 d x : Int32} {a : Nat → Int32} {c : Int} (hn : n ≤ 160) (h1 : i9.toInt = (p : Int)) (h2 : i14.toInt = (cn S : Int)) (h3 : d.toInt = (S.length : Int)) (h4 : SK a S) (h5 : S.length ≤ p) (hp : p < n) (hx : x.toInt = c) (hc : ¬ (c = 40 ∨ c = 91 ∨ c = 33)) : KP n (p + 1) (c :: S) (i9 + 1) i14 (d + 1) (upd a d.toNatClampNeg x) := by
  refine ⟨suc_of h1 (by omega), ?_, suc_of h3 (by omega), ?_, by show S.length + 1 ≤ p + 1; omega, by omega⟩
  · rw [cn_n hc]; exact h2
  · rw [nc h3]; exact SK_push h4 hx
/-- what a run to 'behind a sum' comes to -/
def MR (T : Nat → Int) (n : Nat) (i10 : Int32) (a1 : Nat → Int32) (i11 : Int32) (h : Int) (S : List Int) (r : Int × Nat) (X : P6) : Prop :=
  (r.1 < 0 ∧ X.2.1.toInt = r.1) ∨ (r.1 = 0 ∧ nop (T r.2) ∧ ∃ (f : Nat) (L : List Int) (i9 i14 i15 : Int32) (a : Nat → Int32), X = GO i10 a1 f i9 i11 i14 i15 a ∧ AO L ∧ KP n r.2 (L ++ h :: S) i9 i14 i15 a ∧ 401 ≤ f + r.2)
/-- what a run to 'behind a factor' comes to -/
def MF (n : Nat) (i10 : Int32) (a1 : Nat → Int32) (i11 : Int32) (S : List Int) (r : Int × Nat) (X : P6) : Prop :=
  (r.1 < 0 ∧ X.2.1.toInt = r.1) ∨ (r.1 = 0 ∧ ∃ (f : Nat) (i9 i14 i15 : Int32) (a : Nat → Int32), X = GO i10 a1 f i9 i11 i14 i15 a ∧ KP n r.2 S i9 i14 i15 a ∧ 401 ≤ f + r.2)
def MFS (T : Nat → Int) (n : Nat) (i10 : Int32) (a1 : Nat → Int32) (i11 : Int32) (k : Nat) : Prop := ∀ (p m f : Nat) (S : List Int) (i9 i14 i15 : Int32) (a : Nat → Int32), KP n p S i9 i14 i15 a → cn S ≤ 6 → 1 ≤ cn S → 4 * (n + 1 - p) + 0 < k → 170 ≤ m + p → 400 ≤ f + p → MF n i10 a1 i11 S (sp T k 0 (cn S) p) (FXa i10 a1 m f i9 i11 i14 i15 a)
def MSS (T : Nat → Int) (n : Nat) (i10 : Int32) (a1 : Nat → Int32) (i11 : Int32) (k : Nat) : Prop := ∀ (p m f : Nat) (h : Int) (L S : List Int) (i9 i14 i15 : Int32) (a : Nat → Int32), nop h → AO L → KP n p (L ++ h :: S) i9 i14 i15 a → cn (h :: S) ≤ 6 → 1 ≤ cn (h :: S) → 4 * (n + 1 - p) + 1 < k → 170 ≤ m + p → 400 ≤ f + p → MR T n i10 a1 i11 h S (sp T k 1 (cn (h :: S)) p) (FXa i10 a1 m f i9 i11 i14 i15 a)
/-- behind a factor: the rest of the sum -/
theorem m_tail {T : Nat → Int} {n k : Nat} {i10 i11 : Int32} {a1 : Nat → Int32} (hT : TXT T n) (hx : TXM T n i10 a1) (hg : i11.toInt = 0) (ih : MSS T n i10 a1 i11 k) {p f : Nat} {h : Int} {L S : List Int} {i9 i14 i15 : Int32} {a : Nat → Int32} (hh : nop h) (hL : AO L) (hK : KP n p (L ++ h :: S) i9 i14 i15 a) (h6 : cn (h :: S) ≤ 6) (h1 : 1 ≤ cn (h :: S)) (hk : 4 * (n + 1 - p) + 0 < k) (hf : 401 ≤ f + p) :
    MR T n i10 a1 i11 h S (if opT (T p) = true ∨ opS (T p) = true then sp T k 1 (cn (h :: S)) (p + 1) else (0, p)) (GO i10 a1 f i9 i11 i14 i15 a) := by
  have h160 := hT.1
  have hK0 := hK
  obtain ⟨k1, k2, k3, k4, k5, k6⟩ := hK
  have hr := hr_of hT hx k1
  by_cases w : opT (T p) = true ∨ opS (T p) = true
  · rw [if_pos w]
    have wo : T p = 42 ∨ T p = 47 ∨ T p = 37 ∨ T p = 43 ∨ T p = 45 := by
      rcases w with w | w
      · have := opT_i w; omega
      · have := opS_i w; omega
    have hpn := T_in hT (p := p) (by omega)
    rw [GO_good hg, go_op (by omega)]
    obtain ⟨L', g1, g2, g3, g4, g5⟩ := sums_of (p0 := F_m12_isPlus (F_m12_here i9 i10 a1)) hh hL (by omega) k3 k4
    have hl1 := len_app (L := L) (h := h) (S := S)
    have hl2 := len_app (L := L') (h := h) (S := S)
    obtain ⟨f, rfl⟩ : ∃ q, f = q + 1 := ⟨f - 1, by omega⟩
    unfold plt
    rw [if_neg n10]
    dsimp only
    rw [PL_1 hg]
    have hK2 : KP n (p + 1) (T p :: (L' ++ h :: S)) (i9 + 1) i14 (F_m12_sums (F_m12_isPlus (F_m12_here i9 i10 a1)) i15 a + 1) (upd a (F_m12_sums (F_m12_isPlus (F_m12_here i9 i10 a1)) i15 a).toNatClampNeg (F_m12_here i9 i10 a1)) :=
      KP_put h160 k1 (by rw [cn_ao g1]; rw [cn_ao hL] at k2; exact k2) g3 g4 (by omega) hpn hr (by omega)
    exact ih (p + 1) 180 f h (T p :: L') S (i9 + 1) i14 _ _ hh (AO_c wo g1) hK2 h6 h1 (by omega) (by omega) (by omega)
  · rw [if_neg w]
    refine Or.inr ⟨rfl, ?_, f, L, i9, i14, i15, a, rfl, hL, hK0, hf⟩
    intro q
    have q1 := opT_o (fun z => w (Or.inl z))
    have q2 := opS_o (fun z => w (Or.inr z))
    show False
    have q' : T p = 42 ∨ T p = 47 ∨ T p = 37 ∨ T p = 43 ∨ T p = 45 := q
    omega
theorem m_fac {T : Nat → Int} {n k : Nat} {i10 i11 : Int32} {a1 : Nat → Int32} (hT : TXT T n) (hx : TXM T n i10 a1) (hg : i11.toInt = 0) (ih : MSS T n i10 a1 i11 k) : MFS T n i10 a1 i11 (k + 1) := by
  have h160 := hT.1
  intro p m f S i9 i14 i15 a hK h6 h1 hk hm hf
  have hK0 := hK
  obtain ⟨k1, k2, k3, k4, k5, k6⟩ := hK
  have hr := hr_of hT hx k1
  obtain ⟨m, rfl⟩ : ∃ q, m = q + 2 := ⟨m - 2, by omega⟩
  obtain ⟨f, rfl⟩ : ∃ q, f = q + 1 := ⟨f - 1, by omega⟩
  rw [sp_0]
  by_cases h91 : T p = 91
  · rw [if_pos h91]
    have hpn := T_in hT (p := p) (by omega)
    by_cases ho : 6 ≤ cn S
    · rw [if_pos ho]
      exact Or.inl ⟨by show -5000 - (p : Int) < 0; omega, by rw [FA_6 hg (by omega) (by omega) (by omega)]; show -5000 - i9.toInt = -5000 - (p : Int); omega⟩
    · rw [if_neg ho, FA_o hg (by omega) (by omega)]
      have hK2 := KP_push h160 hK0 hpn (show (F_m12_here i9 i10 a1).toInt = 91 by omega) (by omega)
      have hc : cn (91 :: S) = cn S + 1 := cn_y (by omega)
      have H := ih (p + 1) (m + 1) (f + 1) 91 [] S _ _ _ _ (by intro q; omega) AO_n hK2 (by omega) (by omega) (by omega) (by omega) (by omega)
      rw [hc] at H
      rcases H with ⟨r1, r2⟩ | ⟨r1, r2, f2, L, j9, j14, j15, b, e, eL, eK, ef⟩
      · rw [seq_n r1]; exact Or.inl ⟨r1, r2⟩
      · rw [seq_y r1, e]
        generalize (sp T k 1 (cn S + 1) (p + 1)).2 = q at r2 eK ef
        obtain ⟨q1, q2, q3, q4, q5, q6⟩ := eK
        have hr2 := hr_of hT hx q1
        have r2' : ¬ (T q = 42 ∨ T q = 47 ∨ T q = 37 ∨ T q = 43 ∨ T q = 45) := r2
        have hl1 := len_app (L := L) (h := 91) (S := S)
        obtain ⟨L', g1, g2, g3, g4, g5⟩ := sums_of (p0 := 1) (h := 91) (by intro z; omega) eL (by omega) q3 q4
        have g5 := g5 y10
        subst g5
        have g3 : (F_m12_sums 1 j15 b).toInt = ((S.length + 1 : Nat) : Int) := g3
        have ht := tp_c g3 g4 (by omega)
        obtain ⟨sm, hsm⟩ : ∃ s, F_m12_sums 1 j15 b = s := ⟨_, rfl⟩
        simp only [hsm] at g1 g2 g3 g4 ht
        rw [cn_ao eL, hc] at q2
        obtain ⟨f2, rfl⟩ : ∃ q, f2 = q + 1 := ⟨f2 - 1, by omega⟩
        rw [GO_good hg, go_nop (by intro z; omega)]
        show MF n i10 a1 i11 S (if T q = 93 then (0, q + 1) else (-1000 - (q : Int), q)) _
        by_cases w : T q = 93
        · have hqn := T_in hT (p := q) (by omega)
          rw [if_pos w, g59_rb (by omega), hsm, if_pos ht]
          unfold plt
          rw [if_neg n10]
          dsimp only
          rw [PL_1b hg]
          exact Or.inr ⟨rfl, f2, j9 + 1, j14 - 1, sm - 1, b, rfl, ⟨suc_of q1 (by omega), pred_of q2 (by omega), pred_of g3 (by omega), g4.2, by show S.length ≤ q + 1; omega, hqn⟩, by show 401 ≤ f2 + (q + 1); omega⟩
        · rw [if_neg w]
          refine Or.inl ⟨by show -1000 - (q : Int) < 0; omega, ?_⟩
          have eb := fl0 (f := 1) (a := j9) hg (by rw [c1]; omega) (by omega)
          have c1' := c1
          by_cases w2 : T q = 60 ∨ T q = 62 ∨ T q = 61
          · rw [g59_sg (by omega), hsm, if_pos (Or.inl ht)]
            unfold plt
            rw [if_neg n10]
            dsimp only
            rw [PL_bad (by omega)]
            show _ = -1000 - (q : Int); omega
          · rw [g59_el (by omega) (by omega), hsm]
            rcases sig (v := F_m12_top sm b) with ⟨z, e⟩ | ⟨z, e⟩
            · omega
            · rw [e, if_pos y00]
              unfold plt
              rw [if_pos y00]
              dsimp only
              rw [PL_bad (by omega)]
              show _ = -1000 - (q : Int); omega
  · rw [if_neg h91, FA_a hg (by omega)]
    rcases sd hT hx k1 with ⟨d1, d2, d⟩ | ⟨d1, d⟩
    · rw [if_pos ⟨d1, d2⟩, d, if_neg n10]
      have c9 : (99999 : Int32).toInt = 99999 := by decide
      have N := mnum (p0 := 99999) hT hx k1 k6 (by rw [c9]; decide) hg
      rw [c9] at N
      generalize F_m12_readsNumber 99999 i9 i10 i11 a1 = t at N ⊢
      obtain ⟨t1, t2, t3⟩ := t
      dsimp only at N
      rcases N with ⟨m1, m2, m3, m4⟩ | ⟨m1, m2⟩
      · have s := spN_at hT k6 m1
        have e11 : t3 = i11 := eq_of_toInt (by omega)
        refine Or.inr ⟨m1, f + 1, t2, i14, i15, a, ?_, ⟨m3, k2, k3, k4, by show S.length ≤ (spN T 99999 p).2.1; omega, s.2.1⟩, by show 401 ≤ f + 1 + (spN T 99999 p).2.1; omega⟩
        show GO i10 a1 (f + 1) t2 t3 i14 i15 a = _
        rw [e11]
      · refine Or.inl ⟨m1, ?_⟩
        show (GO i10 a1 (f + 1) t2 t3 i14 i15 a).2.1.toInt = (spN T 99999 p).1
        rw [GO_bad (by omega)]; exact m2
    · rw [if_neg d1, d, if_pos y00]
      rcases val (v := F_m12_here i9 i10 a1) with ⟨v1, v⟩ | ⟨v1, v⟩
      · rw [v, if_neg n10, if_pos (by omega)]
        have hpn := T_in hT (p := p) (by omega)
        exact Or.inr ⟨rfl, f + 1, i9 + 1, i14, i15, a, rfl, ⟨suc_of k1 (by omega), k2, k3, k4, by show S.length ≤ p + 1; omega, hpn⟩, by show 401 ≤ f + 1 + (p + 1); omega⟩
      · rw [v, if_pos y00, if_neg (by omega)]
        have eb := fl0 (f := 1) (a := i9) hg (by rw [c1]; omega) (by omega)
        have c1' := c1
        refine Or.inl ⟨by show -1000 - (p : Int) < 0; omega, ?_⟩
        show (GO i10 a1 (f + 1) i9 (F_m12_fails 1 i9 i11) i14 i15 a).2.1.toInt = -1000 - (p : Int)
        rw [GO_bad (by omega)]; omega
theorem m_sum {T : Nat → Int} {n k : Nat} {i10 i11 : Int32} {a1 : Nat → Int32} (hT : TXT T n) (hx : TXM T n i10 a1) (hg : i11.toInt = 0) (ih : MSS T n i10 a1 i11 k) (ihf : MFS T n i10 a1 i11 k) : MSS T n i10 a1 i11 (k + 1) := by
  intro p m f h L S i9 i14 i15 a hh hL hK h6 h1 hk hm hf
  have hK0 := hK
  obtain ⟨k1, k2, k3, k4, k5, k6⟩ := hK
  have ec : cn (L ++ h :: S) = cn (h :: S) := cn_ao hL
  have H := ihf p m f (L ++ h :: S) i9 i14 i15 a hK0 (by omega) (by omega) (by omega) hm hf
  have H2 := sp_ok hT k 0 (cn (h :: S)) p (by omega) k6 (by omega)
  rw [ec] at H
  rw [sp_1]
  rcases H with ⟨r1, r2⟩ | ⟨r1, f2, j9, j14, j15, b, e, eK, ef⟩
  · rw [seq_n r1]; exact Or.inl ⟨r1, r2⟩
  · rw [seq_y r1, e]
    rcases H2 with ⟨_, s2, s3⟩ | s
    · exact m_tail hT hx hg ih hh hL eK h6 h1 (by omega) ef
    · omega
theorem m_sums {T : Nat → Int} {n : Nat} {i10 i11 : Int32} {a1 : Nat → Int32} (hT : TXT T n) (hx : TXM T n i10 a1) (hg : i11.toInt = 0) : ∀ k, MSS T n i10 a1 i11 k ∧ MFS T n i10 a1 i11 k := by
  intro k
  induction k with
  | zero => exact ⟨fun _ _ _ _ _ _ _ _ _ _ _ _ _ _ _ h _ _ => by omega, fun _ _ _ _ _ _ _ _ _ _ _ h _ _ => by omega⟩
  | succ k ih => exact ⟨m_sum hT hx hg ih.1 ih.2, m_fac hT hx hg ih.1⟩
