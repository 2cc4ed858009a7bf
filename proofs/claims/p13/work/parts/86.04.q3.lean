/-! the class's readers of conditions answer as sp says -/
theorem xop1 {u y a b : Int32} (h : u.toInt < 6) : F_x3_readOpening u y a b = ((1 : Int32), y + 1, a, b) := by
  unfold F_x3_readOpening; rw [if_pos h]; rfl
theorem xop0 {u y a b : Int32} (h : ¬ u.toInt < 6) : F_x3_readOpening u y a b = ((0 : Int32), y, 5, y) := by
  unfold F_x3_readOpening; rw [if_neg h]; rfl
theorem xpass1 {w i12 y a b : Int32} {a1 : Nat → Int32} (h : (F_x3_sign i12 y a1).toInt = w.toInt) : F_x3_pass w i12 y a b a1 = ((1 : Int32), y + 1, a, b) := by
  unfold F_x3_pass
  show (if (F_x3_sign i12 y a1).toInt = w.toInt then f_x3_pass_b_6 y a b else f_x3_pass_b_9 y) = _
  rw [if_pos h]; rfl
theorem xpass0 {w i12 y a b : Int32} {a1 : Nat → Int32} (h : ¬ (F_x3_sign i12 y a1).toInt = w.toInt) : F_x3_pass w i12 y a b a1 = ((0 : Int32), y, 1, y) := by
  unfold F_x3_pass
  show (if (F_x3_sign i12 y a1).toInt = w.toInt then f_x3_pass_b_6 y a b else f_x3_pass_b_9 y) = _
  rw [if_neg h]; rfl
theorem xts1 {i12 y : Int32} {a1 : Nat → Int32} (h : (F_x3_sign i12 y a1).toInt = 42 ∨ (F_x3_sign i12 y a1).toInt = 47 ∨ (F_x3_sign i12 y a1).toInt = 37) : F_x3_isTermSign i12 y a1 = 1 := by
  show (if (F_x3_sign i12 y a1).toInt = 42 then (1 : Int32) else if (F_x3_sign i12 y a1).toInt = 47 then (1 : Int32) else if (F_x3_sign i12 y a1).toInt ≠ 37 then (0 : Int32) else (1 : Int32)) = 1
  by_cases h1 : (F_x3_sign i12 y a1).toInt = 42
  · rw [if_pos h1]
  · rw [if_neg h1]
    by_cases h2 : (F_x3_sign i12 y a1).toInt = 47
    · rw [if_pos h2]
    · rw [if_neg h2, if_neg (by omega)]
theorem xts0 {i12 y : Int32} {a1 : Nat → Int32} (h : ¬ ((F_x3_sign i12 y a1).toInt = 42 ∨ (F_x3_sign i12 y a1).toInt = 47 ∨ (F_x3_sign i12 y a1).toInt = 37)) : F_x3_isTermSign i12 y a1 = 0 := by
  show (if (F_x3_sign i12 y a1).toInt = 42 then (1 : Int32) else if (F_x3_sign i12 y a1).toInt = 47 then (1 : Int32) else if (F_x3_sign i12 y a1).toInt ≠ 37 then (0 : Int32) else (1 : Int32)) = 0
  rw [if_neg (by omega), if_neg (by omega), if_pos (by omega)]
theorem xcmp1 {i12 y a b : Int32} {a1 : Nat → Int32} (h : (F_x3_sign i12 y a1).toInt = 60 ∨ (F_x3_sign i12 y a1).toInt = 62 ∨ (F_x3_sign i12 y a1).toInt = 61) : F_x3_readComparison i12 y a b a1 = ((1 : Int32), y + 1, a, b) := by
  show (if (F_x3_sign i12 y a1).toInt = 60 then ((1 : Int32), y + 1, a, b) else if (F_x3_sign i12 y a1).toInt = 62 then ((1 : Int32), y + 1, a, b) else if (F_x3_sign i12 y a1).toInt = 61 then ((1 : Int32), y + 1, a, b) else ((0 : Int32), y, (1 : Int32), y)) = _
  by_cases h1 : (F_x3_sign i12 y a1).toInt = 60
  · rw [if_pos h1]
  · rw [if_neg h1]
    by_cases h2 : (F_x3_sign i12 y a1).toInt = 62
    · rw [if_pos h2]
    · rw [if_neg h2, if_pos (by omega)]
theorem xcmp0 {i12 y a b : Int32} {a1 : Nat → Int32} (h : ¬ ((F_x3_sign i12 y a1).toInt = 60 ∨ (F_x3_sign i12 y a1).toInt = 62 ∨ (F_x3_sign i12 y a1).toInt = 61)) : F_x3_readComparison i12 y a b a1 = ((0 : Int32), y, 1, y) := by
  show (if (F_x3_sign i12 y a1).toInt = 60 then ((1 : Int32), y + 1, a, b) else if (F_x3_sign i12 y a1).toInt = 62 then ((1 : Int32), y + 1, a, b) else if (F_x3_sign i12 y a1).toInt = 61 then ((1 : Int32), y + 1, a, b) else ((0 : Int32), y, (1 : Int32), y)) = _
  rw [if_neg (by omega), if_neg (by omega), if_neg (by omega)]
section GRP
variable {T : Nat → Int} {n : Nat} {u i12 : Int32} {a1 : Nat → Int32}
theorem z_readTerm {g : Int32 → Int32 → Int32 → Int32 → Int32 → (Nat → Int32) → R4} (f : Nat) (c y a b : Int32) : f_x3_readTerm_j13 u i12 a1 g (f + 1) 0 c y a b = ((0 : Int32), y, a, b) := by
  show (if (0 : Int32).toInt = 0 then f_x3_readTerm_b_22 0 y a b else f_x3_readTerm_b_24 u i12 a1 g 0 c y a b (f_x3_readTerm_j13 u i12 a1 g f)) = _
  rw [if_pos y00]; rfl
theorem s_readTerm (hT : TXT T n) (hx : TXX T n i12 a1) {g : Int32 → Int32 → Int32 → Int32 → Int32 → (Nat → Int32) → R4} (f : Nat) (c y a b : Int32) (p : Nat) (hy : y.toInt = (p : Int)) (hp : p ≤ n) (h : ¬ opT (T p) = true) : f_x3_readTerm_j13 u i12 a1 g (f + 1) 1 c y a b = ((1 : Int32), y, a, b) := by
  have hs := sg_of hT hx hy
  show (if (1 : Int32).toInt = 0 then f_x3_readTerm_b_22 1 y a b else if c.toInt ≥ 160 then ((1 : Int32), y, a, b) else if (F_x3_isTermSign i12 y a1).toInt = 0 then ((1 : Int32), y, a, b) else f_x3_readTerm_b_37 u i12 a1 g c y a b (f_x3_readTerm_j13 u i12 a1 g f)) = _
  rw [if_neg n10]
  by_cases hc : c.toInt ≥ 160
  · rw [if_pos hc]
  · rw [if_neg hc, xts0 (by have := opT_o h; omega), if_pos y00]
theorem g_readTerm (hT : TXT T n) (hx : TXX T n i12 a1) {g : Int32 → Int32 → Int32 → Int32 → Int32 → (Nat → Int32) → R4} (f : Nat) (c y a b : Int32) (p : Nat) (hy : y.toInt = (p : Int)) (hp : p ≤ n) (hc : c.toInt < 160) (h : opT (T p) = true) : f_x3_readTerm_j13 u i12 a1 g (f + 1) 1 c y a b = dn (f_x3_readTerm_j13 u i12 a1 g) f (c + Int32.ofInt 1) (g u i12 (y + 1) a b a1) := by
  have hs := sg_of hT hx hy
  show (if (1 : Int32).toInt = 0 then f_x3_readTerm_b_22 1 y a b else if c.toInt ≥ 160 then ((1 : Int32), y, a, b) else if (F_x3_isTermSign i12 y a1).toInt = 0 then ((1 : Int32), y, a, b) else f_x3_readTerm_b_37 u i12 a1 g c y a b (f_x3_readTerm_j13 u i12 a1 g f)) = _
  rw [if_neg n10, if_neg (by omega)]
  rw [xts1 (by have := opT_i h; omega), if_neg n10]; rfl
theorem z_readSum {g : Int32 → Int32 → Int32 → Int32 → Int32 → (Nat → Int32) → R4} (f : Nat) (c y a b : Int32) : f_x3_readSum_j13 u i12 a1 g (f + 1) 0 c y a b = ((0 : Int32), y, a, b) := by
  show (if (0 : Int32).toInt = 0 then f_x3_readSum_b_22 0 y a b else f_x3_readSum_b_24 u i12 a1 g 0 c y a b (f_x3_readSum_j13 u i12 a1 g f)) = _
  rw [if_pos y00]; rfl
theorem s_readSum (hT : TXT T n) (hx : TXX T n i12 a1) {g : Int32 → Int32 → Int32 → Int32 → Int32 → (Nat → Int32) → R4} (f : Nat) (c y a b : Int32) (p : Nat) (hy : y.toInt = (p : Int)) (hp : p ≤ n) (h : ¬ opS (T p) = true) : f_x3_readSum_j13 u i12 a1 g (f + 1) 1 c y a b = ((1 : Int32), y, a, b) := by
  have hs := sg_of hT hx hy
  show (if (1 : Int32).toInt = 0 then f_x3_readSum_b_22 1 y a b else if c.toInt ≥ 160 then ((1 : Int32), y, a, b) else if (F_x3_sign i12 y a1).toInt = 43 then f_x3_readSum_b_34 u i12 a1 g c y a b (f_x3_readSum_j13 u i12 a1 g f) else if (F_x3_sign i12 y a1).toInt ≠ 45 then ((1 : Int32), y, a, b) else f_x3_readSum_b_57 u i12 a1 g c y a b (f_x3_readSum_j13 u i12 a1 g f)) = _
  rw [if_neg n10]
  by_cases hc : c.toInt ≥ 160
  · rw [if_pos hc]
  · rw [if_neg hc, if_neg (by have := opS_o h; omega), if_pos (by have := opS_o h; omega)]
theorem g_readSum (hT : TXT T n) (hx : TXX T n i12 a1) {g : Int32 → Int32 → Int32 → Int32 → Int32 → (Nat → Int32) → R4} (f : Nat) (c y a b : Int32) (p : Nat) (hy : y.toInt = (p : Int)) (hp : p ≤ n) (hc : c.toInt < 160) (h : opS (T p) = true) : f_x3_readSum_j13 u i12 a1 g (f + 1) 1 c y a b = dn (f_x3_readSum_j13 u i12 a1 g) f (c + Int32.ofInt 1) (g u i12 (y + 1) a b a1) := by
  have hs := sg_of hT hx hy
  show (if (1 : Int32).toInt = 0 then f_x3_readSum_b_22 1 y a b else if c.toInt ≥ 160 then ((1 : Int32), y, a, b) else if (F_x3_sign i12 y a1).toInt = 43 then f_x3_readSum_b_34 u i12 a1 g c y a b (f_x3_readSum_j13 u i12 a1 g f) else if (F_x3_sign i12 y a1).toInt ≠ 45 then ((1 : Int32), y, a, b) else f_x3_readSum_b_57 u i12 a1 g c y a b (f_x3_readSum_j13 u i12 a1 g f)) = _
  rw [if_neg n10, if_neg (by omega)]
  by_cases w : (F_x3_sign i12 y a1).toInt = 43
  · rw [if_pos w]; rfl
  · rw [if_neg w, if_neg (by have := opS_i h; omega)]; rfl
theorem z_readPart {g : Int32 → Int32 → Int32 → Int32 → Int32 → (Nat → Int32) → R4} (f : Nat) (c y a b : Int32) : f_x3_readPart_j13 u i12 a1 g (f + 1) 0 c y a b = ((0 : Int32), y, a, b) := by
  show (if (0 : Int32).toInt = 0 then f_x3_readPart_b_22 0 y a b else f_x3_readPart_b_24 u i12 a1 g 0 c y a b (f_x3_readPart_j13 u i12 a1 g f)) = _
  rw [if_pos y00]; rfl
theorem s_readPart (hT : TXT T n) (hx : TXX T n i12 a1) {g : Int32 → Int32 → Int32 → Int32 → Int32 → (Nat → Int32) → R4} (f : Nat) (c y a b : Int32) (p : Nat) (hy : y.toInt = (p : Int)) (hp : p ≤ n) (h : ¬ opA (T p) = true) : f_x3_readPart_j13 u i12 a1 g (f + 1) 1 c y a b = ((1 : Int32), y, a, b) := by
  have hs := sg_of hT hx hy
  show (if (1 : Int32).toInt = 0 then f_x3_readPart_b_22 1 y a b else if c.toInt ≥ 160 then ((1 : Int32), y, a, b) else if (F_x3_sign i12 y a1).toInt ≠ 38 then ((1 : Int32), y, a, b) else f_x3_readPart_b_36 u i12 a1 g c y a b (f_x3_readPart_j13 u i12 a1 g f)) = _
  rw [if_neg n10]
  by_cases hc : c.toInt ≥ 160
  · rw [if_pos hc]
  · rw [if_neg hc, if_pos (by have := opA_o h; omega)]
theorem g_readPart (hT : TXT T n) (hx : TXX T n i12 a1) {g : Int32 → Int32 → Int32 → Int32 → Int32 → (Nat → Int32) → R4} (f : Nat) (c y a b : Int32) (p : Nat) (hy : y.toInt = (p : Int)) (hp : p ≤ n) (hc : c.toInt < 160) (h : opA (T p) = true) : f_x3_readPart_j13 u i12 a1 g (f + 1) 1 c y a b = dn (f_x3_readPart_j13 u i12 a1 g) f (c + Int32.ofInt 1) (g u i12 (y + 1) a b a1) := by
  have hs := sg_of hT hx hy
  show (if (1 : Int32).toInt = 0 then f_x3_readPart_b_22 1 y a b else if c.toInt ≥ 160 then ((1 : Int32), y, a, b) else if (F_x3_sign i12 y a1).toInt ≠ 38 then ((1 : Int32), y, a, b) else f_x3_readPart_b_36 u i12 a1 g c y a b (f_x3_readPart_j13 u i12 a1 g f)) = _
  rw [if_neg n10, if_neg (by omega)]
  rw [if_neg (by have := opA_i h; omega)]; rfl
theorem z_readCondition {g : Int32 → Int32 → Int32 → Int32 → Int32 → (Nat → Int32) → R4} (f : Nat) (c y a b : Int32) : f_x3_readCondition_j13 u i12 a1 g (f + 1) 0 c y a b = ((0 : Int32), y, a, b) := by
  show (if (0 : Int32).toInt = 0 then f_x3_readCondition_b_22 0 y a b else f_x3_readCondition_b_24 u i12 a1 g 0 c y a b (f_x3_readCondition_j13 u i12 a1 g f)) = _
  rw [if_pos y00]; rfl
theorem s_readCondition (hT : TXT T n) (hx : TXX T n i12 a1) {g : Int32 → Int32 → Int32 → Int32 → Int32 → (Nat → Int32) → R4} (f : Nat) (c y a b : Int32) (p : Nat) (hy : y.toInt = (p : Int)) (hp : p ≤ n) (h : ¬ opO (T p) = true) : f_x3_readCondition_j13 u i12 a1 g (f + 1) 1 c y a b = ((1 : Int32), y, a, b) := by
  have hs := sg_of hT hx hy
  show (if (1 : Int32).toInt = 0 then f_x3_readCondition_b_22 1 y a b else if c.toInt ≥ 160 then ((1 : Int32), y, a, b) else if (F_x3_sign i12 y a1).toInt ≠ 124 then ((1 : Int32), y, a, b) else f_x3_readCondition_b_36 u i12 a1 g c y a b (f_x3_readCondition_j13 u i12 a1 g f)) = _
  rw [if_neg n10]
  by_cases hc : c.toInt ≥ 160
  · rw [if_pos hc]
  · rw [if_neg hc, if_pos (by have := opO_o h; omega)]
theorem g_readCondition (hT : TXT T n) (hx : TXX T n i12 a1) {g : Int32 → Int32 → Int32 → Int32 → Int32 → (Nat → Int32) → R4} (f : Nat) (c y a b : Int32) (p : Nat) (hy : y.toInt = (p : Int)) (hp : p ≤ n) (hc : c.toInt < 160) (h : opO (T p) = true) : f_x3_readCondition_j13 u i12 a1 g (f + 1) 1 c y a b = dn (f_x3_readCondition_j13 u i12 a1 g) f (c + Int32.ofInt 1) (g u i12 (y + 1) a b a1) := by
  have hs := sg_of hT hx hy
  show (if (1 : Int32).toInt = 0 then f_x3_readCondition_b_22 1 y a b else if c.toInt ≥ 160 then ((1 : Int32), y, a, b) else if (F_x3_sign i12 y a1).toInt ≠ 124 then ((1 : Int32), y, a, b) else f_x3_readCondition_b_36 u i12 a1 g c y a b (f_x3_readCondition_j13 u i12 a1 g f)) = _
  rw [if_neg n10, if_neg (by omega)]
  rw [if_neg (by have := opO_i h; omega)]; rfl
end GRP
theorem e_b39 {g : Int32 → Int32 → Int32 → Int32 → Int32 → (Nat → Int32) → R4} {u i12 x y z : Int32} {a1 : Nat → Int32} : f_x3_readPiece_b_39 u i12 a1 g x y z = if (g u i12 x y z a1).1.toInt = 0 then ((0 : Int32), (g u i12 x y z a1).2.1, (g u i12 x y z a1).2.2.1, (g u i12 x y z a1).2.2.2) else ((1 : Int32), (g u i12 x y z a1).2.1, (g u i12 x y z a1).2.2.1, (g u i12 x y z a1).2.2.2) := rfl
theorem e_b121 {g : Int32 → Int32 → Int32 → Int32 → Int32 → (Nat → Int32) → R4} {u i12 x y z : Int32} {a1 : Nat → Int32} : f_x3_readPiece_b_121 u i12 a1 g x y z = if (g (u + 1) i12 x y z a1).1.toInt = 0 then ((0 : Int32), (g (u + 1) i12 x y z a1).2.1, (g (u + 1) i12 x y z a1).2.2.1, (g (u + 1) i12 x y z a1).2.2.2) else ((1 : Int32), (g (u + 1) i12 x y z a1).2.1, (g (u + 1) i12 x y z a1).2.2.1, (g (u + 1) i12 x y z a1).2.2.2) := rfl
theorem e_b72 {g : Int32 → Int32 → Int32 → Int32 → Int32 → (Nat → Int32) → R4} {u i12 x y z : Int32} {a1 : Nat → Int32} : f_x3_readPiece_b_72 u i12 a1 g x y z = f_x3_readPiece_b_85 i12 a1 (g (u + 1) i12 x y z a1).1 (g (u + 1) i12 x y z a1).2.1 (g (u + 1) i12 x y z a1).2.2.1 (g (u + 1) i12 x y z a1).2.2.2 := rfl
theorem e_b82 {g : Int32 → Int32 → Int32 → Int32 → Int32 → (Nat → Int32) → R4} {u i12 x y z : Int32} {a1 : Nat → Int32} : f_x3_readFactor_b_82 u i12 a1 g x y z = f_x3_readFactor_b_95 i12 a1 (g (u + 1) i12 x y z a1).1 (g (u + 1) i12 x y z a1).2.1 (g (u + 1) i12 x y z a1).2.2.1 (g (u + 1) i12 x y z a1).2.2.2 := rfl
theorem e_b8 {g : Int32 → Int32 → Int32 → Int32 → Int32 → (Nat → Int32) → R4} {u i12 x y z : Int32} {a1 : Nat → Int32} : f_x3_readPiece_b_8 u i12 x y z a1 g = f_x3_readPiece_b_20 u i12 a1 g (g u i12 x y z a1).1 (g u i12 x y z a1).2.1 (g u i12 x y z a1).2.2.1 (g u i12 x y z a1).2.2.2 := rfl
theorem PF {d : Nat} (h : 1 ≤ d) : P_x3_readSum d = G_x3_readSum (d - 1) := P_x3_readSum_pred h
def XG (T : Nat → Int) (n : Nat) (i12 : Int32) (a1 : Nat → Int32) (g : Int32 → Int32 → Int32 → Int32 → Int32 → (Nat → Int32) → R4) (k m o : Nat) : Prop :=
  ∀ (p : Nat) (u y a b : Int32), u.toInt = (o : Int) → p ≤ n → y.toInt = (p : Int) → 4 * (n + 1 - p) + m < k → XR (sp T k m o p) a b (g u i12 y a b a1)
def XA (T : Nat → Int) (n : Nat) (i12 : Int32) (a1 : Nat → Int32) (k : Nat) : Prop := ∀ (o d : Nat), o + d = 7 → 1 ≤ o → 1 ≤ d →
  XG T n i12 a1 (G_x3_readFactor d) k 0 o ∧ XG T n i12 a1 (G_x3_readSum d) k 1 o ∧ XG T n i12 a1 (G_x3_readPiece d) k 2 o ∧ XG T n i12 a1 (G_x3_readCondition d) k 3 o
theorem x_factor {T : Nat → Int} {n k : Nat} {i12 : Int32} {a1 : Nat → Int32} (hT : TXT T n) (hx : TXX T n i12 a1) (ih : XA T n i12 a1 k) (o d : Nat) (hod : o + d = 7) (ho : 1 ≤ o) (hd : 1 ≤ d) : XG T n i12 a1 (G_x3_readFactor d) (k + 1) 0 o := by
  have h160 := hT.1
  intro p u y a b hu hp hy hk
  have hs := sg_of hT hx hy
  have e : G_x3_readFactor d u i12 y a b a1 = if (F_x3_sign i12 y a1).toInt ≠ 91 then f_x3_readFactor_b_6 i12 y a b a1 else f_x3_readFactor_b_67 u i12 y a b a1 (P_x3_readSum d) := rfl
  rw [e, sp_0]
  by_cases h91 : T p = 91
  · rw [if_pos h91, if_neg (show ¬ ((F_x3_sign i12 y a1).toInt ≠ 91) by omega)]
    have e2 : f_x3_readFactor_b_67 u i12 y a b a1 (P_x3_readSum d) = if (F_x3_readOpening u y a b).1.toInt = 0 then f_x3_readFactor_b_80 (F_x3_readOpening u y a b).2.1 (F_x3_readOpening u y a b).2.2.1 (F_x3_readOpening u y a b).2.2.2 else f_x3_readFactor_b_82 u i12 a1 (P_x3_readSum d) (F_x3_readOpening u y a b).2.1 (F_x3_readOpening u y a b).2.2.1 (F_x3_readOpening u y a b).2.2.2 := rfl
    rw [e2]
    by_cases h6 : 6 ≤ o
    · rw [if_pos h6, xop0 (by omega), if_pos y00]
      exact XR_bad (f := 5) (c := 5000) hy (by omega) (by decide) (by decide) (by decide)
    · rw [if_neg h6, xop1 (by omega), if_neg n10]
      dsimp only
      have hpn := T_in hT (p := p) (by omega)
      have hy1 := suc_of hy (by omega)
      have hu1 := suc_of hu (by omega)
      have H := (ih (o + 1) (d - 1) (by omega) (by omega) (by omega)).2.1 (p + 1) (u + 1) (y + 1) a b hu1 (by omega) hy1 (by omega)
      have H2 := sp_ok hT k 1 (o + 1) (p + 1) (by omega) (by omega) (by omega)
      rw [← P_x3_readSum_pred hd] at H
      rw [e_b82]
      generalize P_x3_readSum d (u + 1) i12 (y + 1) a b a1 = t at H
      obtain ⟨t1, t2, t3, t4⟩ := t
      rcases H2 with ⟨k1, k2, k3⟩ | k1
      · rcases H with ⟨g1, g2', g3', g4', g5'⟩ | ⟨g1, _⟩
        · have g2 : t1 = 1 := g2'
          have g3 : t2.toInt = ((sp T k 1 (o + 1) (p + 1)).2 : Int) := g3'
          have g4 : t3 = a := g4'
          have g5 : t4 = b := g5'
          subst g2; subst g4; subst g5
          rw [seq_y k1]
          have hs2 := sg_of hT hx g3
          show XR (if T (sp T k 1 (o + 1) (p + 1)).2 = 93 then (0, (sp T k 1 (o + 1) (p + 1)).2 + 1) else (-1000 - ((sp T k 1 (o + 1) (p + 1)).2 : Int), (sp T k 1 (o + 1) (p + 1)).2)) t3 t4 (if (1 : Int32).toInt = 0 then f_x3_readFactor_b_97 t2 t3 t4 else f_x3_readFactor_b_99 i12 a1 t2 t3 t4)
          rw [if_neg n10]
          have c93 : (93 : Int32).toInt = 93 := by decide
          have e3 : f_x3_readFactor_b_99 i12 a1 t2 t3 t4 = if (F_x3_pass 93 i12 t2 t3 t4 a1).1.toInt = 0 then ((0 : Int32), (F_x3_pass 93 i12 t2 t3 t4 a1).2.1, (F_x3_pass 93 i12 t2 t3 t4 a1).2.2.1, (F_x3_pass 93 i12 t2 t3 t4 a1).2.2.2) else ((1 : Int32), (F_x3_pass 93 i12 t2 t3 t4 a1).2.1, (F_x3_pass 93 i12 t2 t3 t4 a1).2.2.1, (F_x3_pass 93 i12 t2 t3 t4 a1).2.2.2) := rfl
          rw [e3]
          by_cases w : T (sp T k 1 (o + 1) (p + 1)).2 = 93
          · rw [if_pos w, xpass1 (by omega), if_neg n10]
            exact XR_ok (suc_of g3 (by omega))
          · rw [if_neg w, xpass0 (by omega), if_pos y00]
            exact XR_bad (f := 1) (c := 1000) g3 (by omega) (by decide) (by decide) (by decide)
        · omega
      · rcases H with ⟨g1, _⟩ | H
        · omega
        · have g2 : t1 = 0 := H.2.1
          subst g2
          rw [seq_n k1.1]
          exact Or.inr H
  · rw [if_neg h91, if_pos (show (F_x3_sign i12 y a1).toInt ≠ 91 by omega)]
    have e2 : f_x3_readFactor_b_6 i12 y a b a1 = if (F_x3_isBetween (F_x3_sign i12 y a1) 48 57).toInt = 0 then f_x3_readFactor_b_16 i12 y a b a1 else f_x3_readFactor_b_51 i12 y a b a1 := rfl
    rw [e2]
    rcases btw (u := F_x3_sign i12 y a1) (a := 48) (b := 57) with ⟨q1, q2, q⟩ | ⟨q1, q⟩
    · rw [c48] at q1; rw [c57] at q2
      rw [q, if_neg n10, if_pos (by omega)]
      have c9 : (99999 : Int32).toInt = 99999 := by decide
      have N := xnum (u0 := 99999) (i14 := a) (i15 := b) hT hx hy hp (by rw [c9]; decide)
      rw [c9] at N
      have e3 : f_x3_readFactor_b_51 i12 y a b a1 = if (F_x3_readNumber 99999 i12 y a b a1).1.toInt = -1 then ((0 : Int32), (F_x3_readNumber 99999 i12 y a b a1).2.1, (F_x3_readNumber 99999 i12 y a b a1).2.2.1, (F_x3_readNumber 99999 i12 y a b a1).2.2.2) else ((1 : Int32), (F_x3_readNumber 99999 i12 y a b a1).2.1, (F_x3_readNumber 99999 i12 y a b a1).2.2.1, (F_x3_readNumber 99999 i12 y a b a1).2.2.2) := rfl
      rw [e3]
      rcases N with ⟨m1, m2, m3, m4, m5⟩ | ⟨m1, m2, m3, m4, m5, m6, m7⟩
      · have s := spN_at hT hp m1
        rw [if_neg (by omega)]
        exact Or.inl ⟨m1, rfl, m3, m4, m5⟩
      · rw [if_pos (by rw [m2]; decide)]
        exact Or.inr ⟨m1, rfl, m3, m4, m5, m6, m7⟩
    · rw [c48, c57] at q1
      rw [q, if_pos y00, if_neg (by omega)]
      have e3 : f_x3_readFactor_b_16 i12 y a b a1 = if (F_x3_sign i12 y a1).toInt = 98 then ((1 : Int32), y + 1, a, b) else if (F_x3_sign i12 y a1).toInt = 99 then ((1 : Int32), y + 1, a, b) else if (F_x3_sign i12 y a1).toInt = 100 then ((1 : Int32), y + 1, a, b) else if (F_x3_sign i12 y a1).toInt = 109 then ((1 : Int32), y + 1, a, b) else if (F_x3_sign i12 y a1).toInt = 110 then ((1 : Int32), y + 1, a, b) else if (F_x3_sign i12 y a1).toInt = 118 then ((1 : Int32), y + 1, a, b) else ((0 : Int32), y, (1 : Int32), y) := rfl
      rw [e3]
      by_cases w : T p = 98 ∨ T p = 99 ∨ T p = 100 ∨ T p = 109 ∨ T p = 110 ∨ T p = 118
      · rw [if_pos w]
        have R : XR (0, p + 1) a b ((1 : Int32), y + 1, a, b) := XR_ok (suc_of hy (by omega))
        by_cases w1 : (F_x3_sign i12 y a1).toInt = 98
        · rw [if_pos w1]; exact R
        · rw [if_neg w1]
          by_cases w2 : (F_x3_sign i12 y a1).toInt = 99
          · rw [if_pos w2]; exact R
          · rw [if_neg w2]
            by_cases w3 : (F_x3_sign i12 y a1).toInt = 100
            · rw [if_pos w3]; exact R
            · rw [if_neg w3]
              by_cases w4 : (F_x3_sign i12 y a1).toInt = 109
              · rw [if_pos w4]; exact R
              · rw [if_neg w4]
                by_cases w5 : (F_x3_sign i12 y a1).toInt = 110
                · rw [if_pos w5]; exact R
                · rw [if_neg w5, if_pos (by omega)]; exact R
      · rw [if_neg w, if_neg (by omega), if_neg (by omega), if_neg (by omega), if_neg (by omega), if_neg (by omega), if_neg (by omega)]
        exact XR_bad (f := 1) (c := 1000) hy (by omega) (by decide) (by decide) (by decide)
theorem x_sum {T : Nat → Int} {n k : Nat} {i12 : Int32} {a1 : Nat → Int32} (hT : TXT T n) (hx : TXX T n i12 a1) (ih : ∀ j, j ≤ k → XA T n i12 a1 j) (o d : Nat) (hod : o + d = 7) (ho : 1 ≤ o) (hd : 1 ≤ d) : XG T n i12 a1 (G_x3_readSum d) (k + 1) 1 o := by
  have h160 := hT.1
  intro p u y a b hu hp hy hk
  have eS : ∀ g, B_x3_readSum u i12 y a b a1 g = dn (f_x3_readSum_j13 u i12 a1 g) 161 0 (g u i12 y a b a1) := fun g => rfl
  have eT : ∀ (g : Int32 → Int32 → Int32 → Int32 → Int32 → (Nat → Int32) → R4) (y a b : Int32), B_x3_readTerm u i12 y a b a1 g = dn (f_x3_readTerm_j13 u i12 a1 g) 161 0 (g u i12 y a b a1) := fun g y a b => rfl
  have eG : ∀ (y a b : Int32), G_x3_readTerm d u i12 y a b a1 = dn (f_x3_readTerm_j13 u i12 a1 (G_x3_readFactor d)) 161 0 (G_x3_readFactor d u i12 y a b a1) := fun y a b => by
    show B_x3_readTerm u i12 y a b a1 (G_x3_readFactor d) = _
    exact eT _ _ _ _
  have e : G_x3_readSum d u i12 y a b a1 = dn (f_x3_readSum_j13 u i12 a1 (G_x3_readTerm d)) 161 0 (dn (f_x3_readTerm_j13 u i12 a1 (G_x3_readFactor d)) 161 0 (G_x3_readFactor d u i12 y a b a1)) := by
    show B_x3_readSum u i12 y a b a1 (G_x3_readTerm d) = _
    rw [eS, eG]
  have PL := pair_loop (T := T) (n := n) (TL := f_x3_readTerm_j13 u i12 a1 (G_x3_readFactor d)) (SL := f_x3_readSum_j13 u i12 a1 (G_x3_readTerm d)) (g := fun y a b => G_x3_readFactor d u i12 y a b a1) (bt := opT) (bs := opS) (s0 := fun k p => sp T k 0 o p) (s1 := fun k p => sp T k 1 o p) (base := 0) hT
    (fun k p => rfl) (by decide) (by decide)
    (fun f c y a b => z_readTerm f c y a b) (fun f c y a b p => s_readTerm hT hx f c y a b p) (fun f c y a b p => g_readTerm hT hx f c y a b p)
    (fun f c y a b => z_readSum f c y a b) (fun f c y a b p => s_readSum hT hx f c y a b p) (fun f c y a b p h1 h2 h3 h4 => by rw [g_readSum hT hx f c y a b p h1 h2 h3 h4, eG])
    k (fun j hj p y a b hp hy hm => ⟨(ih j (by omega) o d hod ho hd).1 p u y a b hu hp hy hm, sp_ok hT j 0 o p (by omega) hp hm⟩)
  have H := (ih k (Nat.le_refl _) o d hod ho hd).1 p u y a b hu hp hy (by omega)
  have H2 := sp_ok hT k 0 o p (by omega) hp (by omega)
  rw [e, show sp T (k + 1) 1 o p = seq (sp T k 0 o p) (fun q => if opT (T q) = true ∨ opS (T q) = true then sp T k 1 o (q + 1) else (0, q)) from rfl]
  generalize G_x3_readFactor d u i12 y a b a1 = t at H
  obtain ⟨t1, t2, t3, t4⟩ := t
  rcases H2 with ⟨k1, k2, k3⟩ | k1
  · rcases H with ⟨g1, g2', g3', g4', g5'⟩ | ⟨g1, _⟩
    · have g2 : t1 = 1 := g2'
      have g3 : t2.toInt = ((sp T k 0 o p).2 : Int) := g3'
      have g4 : t3 = a := g4'
      have g5 : t4 = b := g5'
      subst g2; subst g4; subst g5
      rw [seq_y k1]
      exact PL (sp T k 0 o p).2 161 161 0 0 t2 t3 t4 k3 g3 (by rw [c0]; omega) (by rw [c0]; omega) (by rw [c0]; omega) (by rw [c0]; omega) (by rw [c0]; omega) (by rw [c0]; omega) (by omega)
    · omega
  · rcases H with ⟨g1, _⟩ | H
    · omega
    · have g2 : t1 = 0 := H.2.1
      subst g2
      rw [seq_n k1.1]
      show XR (sp T k 0 o p) a b (dn (f_x3_readSum_j13 u i12 a1 (G_x3_readTerm d)) 161 0 (f_x3_readTerm_j13 u i12 a1 (G_x3_readFactor d) (160 + 1) 0 0 t2 t3 t4))
      rw [z_readTerm]
      show XR (sp T k 0 o p) a b (f_x3_readSum_j13 u i12 a1 (G_x3_readTerm d) (160 + 1) 0 0 t2 t3 t4)
      rw [z_readSum]
      exact Or.inr H
theorem x_cond {T : Nat → Int} {n k : Nat} {i12 : Int32} {a1 : Nat → Int32} (hT : TXT T n) (hx : TXX T n i12 a1) (ih : ∀ j, j ≤ k → XA T n i12 a1 j) (o d : Nat) (hod : o + d = 7) (ho : 1 ≤ o) (hd : 1 ≤ d) : XG T n i12 a1 (G_x3_readCondition d) (k + 1) 3 o := by
  have h160 := hT.1
  intro p u y a b hu hp hy hk
  have eS : ∀ g, B_x3_readCondition u i12 y a b a1 g = dn (f_x3_readCondition_j13 u i12 a1 g) 161 0 (g u i12 y a b a1) := fun g => rfl
  have eT : ∀ (g : Int32 → Int32 → Int32 → Int32 → Int32 → (Nat → Int32) → R4) (y a b : Int32), B_x3_readPart u i12 y a b a1 g = dn (f_x3_readPart_j13 u i12 a1 g) 161 0 (g u i12 y a b a1) := fun g y a b => rfl
  have eG : ∀ (y a b : Int32), G_x3_readPart d u i12 y a b a1 = dn (f_x3_readPart_j13 u i12 a1 (G_x3_readPiece d)) 161 0 (G_x3_readPiece d u i12 y a b a1) := fun y a b => by
    show B_x3_readPart u i12 y a b a1 (G_x3_readPiece d) = _
    exact eT _ _ _ _
  have e : G_x3_readCondition d u i12 y a b a1 = dn (f_x3_readCondition_j13 u i12 a1 (G_x3_readPart d)) 161 0 (dn (f_x3_readPart_j13 u i12 a1 (G_x3_readPiece d)) 161 0 (G_x3_readPiece d u i12 y a b a1)) := by
    show B_x3_readCondition u i12 y a b a1 (G_x3_readPart d) = _
    rw [eS, eG]
  have PL := pair_loop (T := T) (n := n) (TL := f_x3_readPart_j13 u i12 a1 (G_x3_readPiece d)) (SL := f_x3_readCondition_j13 u i12 a1 (G_x3_readPart d)) (g := fun y a b => G_x3_readPiece d u i12 y a b a1) (bt := opA) (bs := opO) (s0 := fun k p => sp T k 2 o p) (s1 := fun k p => sp T k 3 o p) (base := 2) hT
    (fun k p => rfl) (by decide) (by decide)
    (fun f c y a b => z_readPart f c y a b) (fun f c y a b p => s_readPart hT hx f c y a b p) (fun f c y a b p => g_readPart hT hx f c y a b p)
    (fun f c y a b => z_readCondition f c y a b) (fun f c y a b p => s_readCondition hT hx f c y a b p) (fun f c y a b p h1 h2 h3 h4 => by rw [g_readCondition hT hx f c y a b p h1 h2 h3 h4, eG])
    k (fun j hj p y a b hp hy hm => ⟨(ih j (by omega) o d hod ho hd).2.2.1 p u y a b hu hp hy hm, sp_ok hT j 2 o p (by omega) hp hm⟩)
  have H := (ih k (Nat.le_refl _) o d hod ho hd).2.2.1 p u y a b hu hp hy (by omega)
  have H2 := sp_ok hT k 2 o p (by omega) hp (by omega)
  rw [e, show sp T (k + 1) 3 o p = seq (sp T k 2 o p) (fun q => if opA (T q) = true ∨ opO (T q) = true then sp T k 3 o (q + 1) else (0, q)) from rfl]
  generalize G_x3_readPiece d u i12 y a b a1 = t at H
  obtain ⟨t1, t2, t3, t4⟩ := t
  rcases H2 with ⟨k1, k2, k3⟩ | k1
  · rcases H with ⟨g1, g2', g3', g4', g5'⟩ | ⟨g1, _⟩
    · have g2 : t1 = 1 := g2'
      have g3 : t2.toInt = ((sp T k 2 o p).2 : Int) := g3'
      have g4 : t3 = a := g4'
      have g5 : t4 = b := g5'
      subst g2; subst g4; subst g5
      rw [seq_y k1]
      exact PL (sp T k 2 o p).2 161 161 0 0 t2 t3 t4 k3 g3 (by rw [c0]; omega) (by rw [c0]; omega) (by rw [c0]; omega) (by rw [c0]; omega) (by rw [c0]; omega) (by rw [c0]; omega) (by omega)
    · omega
  · rcases H with ⟨g1, _⟩ | H
    · omega
    · have g2 : t1 = 0 := H.2.1
      subst g2
      rw [seq_n k1.1]
      show XR (sp T k 2 o p) a b (dn (f_x3_readCondition_j13 u i12 a1 (G_x3_readPart d)) 161 0 (f_x3_readPart_j13 u i12 a1 (G_x3_readPiece d) (160 + 1) 0 0 t2 t3 t4))
      rw [z_readPart]
      show XR (sp T k 2 o p) a b (f_x3_readCondition_j13 u i12 a1 (G_x3_readPart d) (160 + 1) 0 0 t2 t3 t4)
      rw [z_readCondition]
      exact Or.inr H
theorem x_piece {T : Nat → Int} {n k : Nat} {i12 : Int32} {a1 : Nat → Int32} (hT : TXT T n) (hx : TXX T n i12 a1) (ih : XA T n i12 a1 k) (o d : Nat) (hod : o + d = 7) (ho : 1 ≤ o) (hd : 1 ≤ d) : XG T n i12 a1 (G_x3_readPiece d) (k + 1) 2 o := by
  have h160 := hT.1
  intro p u y a b hu hp hy hk
  have hs := sg_of hT hx hy
  have e : G_x3_readPiece d u i12 y a b a1 = if (F_x3_sign i12 y a1).toInt ≠ 33 then (if (F_x3_sign i12 y a1).toInt ≠ 40 then f_x3_readPiece_b_8 u i12 y a b a1 (G_x3_readSum d) else f_x3_readPiece_b_57 u i12 y a b a1 (P_x3_readCondition d)) else f_x3_readPiece_b_106 u i12 y a b a1 (P_x3_readPiece d) := rfl
  rw [e, sp_2]
  by_cases h33 : T p = 33
  · rw [if_pos h33, if_neg (show ¬ ((F_x3_sign i12 y a1).toInt ≠ 33) by omega)]
    have hpn := T_in hT (p := p) (by omega)
    have e2 : f_x3_readPiece_b_106 u i12 y a b a1 (P_x3_readPiece d) = if (F_x3_readOpening u y a b).1.toInt = 0 then ((0 : Int32), (F_x3_readOpening u y a b).2.1, (F_x3_readOpening u y a b).2.2.1, (F_x3_readOpening u y a b).2.2.2) else f_x3_readPiece_b_121 u i12 a1 (P_x3_readPiece d) (F_x3_readOpening u y a b).2.1 (F_x3_readOpening u y a b).2.2.1 (F_x3_readOpening u y a b).2.2.2 := rfl
    rw [e2]
    by_cases h6 : 6 ≤ o
    · rw [if_pos h6, xop0 (by omega), if_pos y00]
      exact XR_bad (f := 5) (c := 5000) hy (by omega) (by decide) (by decide) (by decide)
    · rw [if_neg h6, xop1 (by omega), if_neg n10]
      dsimp only
      have H := (ih (o + 1) (d - 1) (by omega) (by omega) (by omega)).2.2.1 (p + 1) (u + 1) (y + 1) a b (suc_of hu (by omega)) (by omega) (suc_of hy (by omega)) (by omega)
      rw [← P_x3_readPiece_pred hd] at H
      rw [e_b121]
      generalize P_x3_readPiece d (u + 1) i12 (y + 1) a b a1 = t at H
      obtain ⟨t1, t2, t3, t4⟩ := t
      have ht : t1 = 1 ∨ t1 = 0 := by
        rcases H with H | H
        · exact Or.inl H.2.1
        · exact Or.inr H.2.1
      rcases ht with rfl | rfl
      · show XR _ a b (if (1 : Int32).toInt = 0 then ((0 : Int32), t2, t3, t4) else ((1 : Int32), t2, t3, t4))
        rw [if_neg n10]; exact H
      · show XR _ a b (if (0 : Int32).toInt = 0 then ((0 : Int32), t2, t3, t4) else ((1 : Int32), t2, t3, t4))
        rw [if_pos y00]; exact H
  · rw [if_neg h33, if_pos (show (F_x3_sign i12 y a1).toInt ≠ 33 by omega)]
    by_cases h40 : T p = 40
    · rw [if_pos h40, if_neg (show ¬ ((F_x3_sign i12 y a1).toInt ≠ 40) by omega)]
      have hpn := T_in hT (p := p) (by omega)
      have e2 : f_x3_readPiece_b_57 u i12 y a b a1 (P_x3_readCondition d) = if (F_x3_readOpening u y a b).1.toInt = 0 then ((0 : Int32), (F_x3_readOpening u y a b).2.1, (F_x3_readOpening u y a b).2.2.1, (F_x3_readOpening u y a b).2.2.2) else f_x3_readPiece_b_72 u i12 a1 (P_x3_readCondition d) (F_x3_readOpening u y a b).2.1 (F_x3_readOpening u y a b).2.2.1 (F_x3_readOpening u y a b).2.2.2 := rfl
      rw [e2]
      by_cases h6 : 6 ≤ o
      · rw [if_pos h6, xop0 (by omega), if_pos y00]
        exact XR_bad (f := 5) (c := 5000) hy (by omega) (by decide) (by decide) (by decide)
      · rw [if_neg h6, xop1 (by omega), if_neg n10]
        dsimp only
        have H := (ih (o + 1) (d - 1) (by omega) (by omega) (by omega)).2.2.2 (p + 1) (u + 1) (y + 1) a b (suc_of hu (by omega)) (by omega) (suc_of hy (by omega)) (by omega)
        have H2 := sp_ok hT k 3 (o + 1) (p + 1) (by omega) (by omega) (by omega)
        rw [← P_x3_readCondition_pred hd] at H
        rw [e_b72]
        generalize P_x3_readCondition d (u + 1) i12 (y + 1) a b a1 = t at H
        obtain ⟨t1, t2, t3, t4⟩ := t
        rcases H2 with ⟨k1, k2, k3⟩ | k1
        · rcases H with ⟨g1, g2', g3', g4', g5'⟩ | ⟨g1, _⟩
          · have g2 : t1 = 1 := g2'
            have g3 : t2.toInt = ((sp T k 3 (o + 1) (p + 1)).2 : Int) := g3'
            have g4 : t3 = a := g4'
            have g5 : t4 = b := g5'
            subst g2; subst g4; subst g5
            rw [seq_y k1]
            have hs2 := sg_of hT hx g3
            show XR (if T (sp T k 3 (o + 1) (p + 1)).2 = 41 then (0, (sp T k 3 (o + 1) (p + 1)).2 + 1) else (-1000 - ((sp T k 3 (o + 1) (p + 1)).2 : Int), (sp T k 3 (o + 1) (p + 1)).2)) t3 t4 (if (1 : Int32).toInt = 0 then f_x3_readPiece_b_87 t2 t3 t4 else f_x3_readPiece_b_89 i12 a1 t2 t3 t4)
            rw [if_neg n10]
            have c41 : (41 : Int32).toInt = 41 := by decide
            have e3 : f_x3_readPiece_b_89 i12 a1 t2 t3 t4 = if (F_x3_pass 41 i12 t2 t3 t4 a1).1.toInt = 0 then ((0 : Int32), (F_x3_pass 41 i12 t2 t3 t4 a1).2.1, (F_x3_pass 41 i12 t2 t3 t4 a1).2.2.1, (F_x3_pass 41 i12 t2 t3 t4 a1).2.2.2) else ((1 : Int32), (F_x3_pass 41 i12 t2 t3 t4 a1).2.1, (F_x3_pass 41 i12 t2 t3 t4 a1).2.2.1, (F_x3_pass 41 i12 t2 t3 t4 a1).2.2.2) := rfl
            rw [e3]
            by_cases w : T (sp T k 3 (o + 1) (p + 1)).2 = 41
            · rw [if_pos w, xpass1 (by omega), if_neg n10]
              exact XR_ok (suc_of g3 (by omega))
            · rw [if_neg w, xpass0 (by omega), if_pos y00]
              exact XR_bad (f := 1) (c := 1000) g3 (by omega) (by decide) (by decide) (by decide)
          · omega
        · rcases H with ⟨g1, _⟩ | H
          · omega
          · have g2 : t1 = 0 := H.2.1
            subst g2
            rw [seq_n k1.1]
            exact Or.inr H
    · rw [if_neg h40, if_pos (show (F_x3_sign i12 y a1).toInt ≠ 40 by omega)]
      have H := (ih o d hod ho hd).2.1 p u y a b hu hp hy (by omega)
      have H2 := sp_ok hT k 1 o p (by omega) hp (by omega)
      rw [e_b8]
      generalize G_x3_readSum d u i12 y a b a1 = t at H
      obtain ⟨t1, t2, t3, t4⟩ := t
      rcases H2 with ⟨k1, k2, k3⟩ | k1
      · rcases H with ⟨g1, g2', g3', g4', g5'⟩ | ⟨g1, _⟩
        · have g2 : t1 = 1 := g2'
          have g3 : t2.toInt = ((sp T k 1 o p).2 : Int) := g3'
          have g4 : t3 = a := g4'
          have g5 : t4 = b := g5'
          subst g2; subst g4; subst g5
          rw [seq_y k1]
          have hs2 := sg_of hT hx g3
          show XR (if T (sp T k 1 o p).2 = 60 ∨ T (sp T k 1 o p).2 = 62 ∨ T (sp T k 1 o p).2 = 61 then sp T k 1 o ((sp T k 1 o p).2 + 1) else (-1000 - ((sp T k 1 o p).2 : Int), (sp T k 1 o p).2)) t3 t4 (if (1 : Int32).toInt = 0 then f_x3_readPiece_b_22 t2 t3 t4 else f_x3_readPiece_b_24 u i12 a1 (G_x3_readSum d) t2 t3 t4)
          rw [if_neg n10]
          have e3 : f_x3_readPiece_b_24 u i12 a1 (G_x3_readSum d) t2 t3 t4 = if (F_x3_readComparison i12 t2 t3 t4 a1).1.toInt = 0 then ((0 : Int32), (F_x3_readComparison i12 t2 t3 t4 a1).2.1, (F_x3_readComparison i12 t2 t3 t4 a1).2.2.1, (F_x3_readComparison i12 t2 t3 t4 a1).2.2.2) else f_x3_readPiece_b_39 u i12 a1 (G_x3_readSum d) (F_x3_readComparison i12 t2 t3 t4 a1).2.1 (F_x3_readComparison i12 t2 t3 t4 a1).2.2.1 (F_x3_readComparison i12 t2 t3 t4 a1).2.2.2 := rfl
          rw [e3]
          by_cases w : T (sp T k 1 o p).2 = 60 ∨ T (sp T k 1 o p).2 = 62 ∨ T (sp T k 1 o p).2 = 61
          · rw [if_pos w, xcmp1 (by omega), if_neg n10]
            dsimp only
            have hqn := T_in hT (p := (sp T k 1 o p).2) (by omega)
            have H3 := (ih o d hod ho hd).2.1 ((sp T k 1 o p).2 + 1) u (t2 + 1) t3 t4 hu (by omega) (suc_of g3 (by omega)) (by omega)
            rw [e_b39]
            generalize G_x3_readSum d u i12 (t2 + 1) t3 t4 a1 = v at H3
            obtain ⟨v1, v2, v3, v4⟩ := v
            have hv : v1 = 1 ∨ v1 = 0 := by
              rcases H3 with H | H
              · exact Or.inl H.2.1
              · exact Or.inr H.2.1
            rcases hv with rfl | rfl
            · show XR _ t3 t4 (if (1 : Int32).toInt = 0 then ((0 : Int32), v2, v3, v4) else ((1 : Int32), v2, v3, v4))
              rw [if_neg n10]; exact H3
            · show XR _ t3 t4 (if (0 : Int32).toInt = 0 then ((0 : Int32), v2, v3, v4) else ((1 : Int32), v2, v3, v4))
              rw [if_pos y00]; exact H3
          · rw [if_neg w, xcmp0 (by omega), if_pos y00]
            exact XR_bad (f := 1) (c := 1000) g3 (by omega) (by decide) (by decide) (by decide)
        · omega
      · rcases H with ⟨g1, _⟩ | H
        · omega
        · have g2 : t1 = 0 := H.2.1
          subst g2
          rw [seq_n k1.1]
          exact Or.inr H
theorem x_all {T : Nat → Int} {n : Nat} {i12 : Int32} {a1 : Nat → Int32} (hT : TXT T n) (hx : TXX T n i12 a1) : ∀ (k j : Nat), j ≤ k → XA T n i12 a1 j := by
  intro k
  induction k with
  | zero =>
    intro j hj o d _ _ _
    have : j = 0 := by omega
    subst this
    exact ⟨fun p u y a b _ _ _ h => by omega, fun p u y a b _ _ _ h => by omega, fun p u y a b _ _ _ h => by omega, fun p u y a b _ _ _ h => by omega⟩
  | succ k ih =>
    intro j hj
    by_cases w : j ≤ k
    · exact ih j w
    · have : j = k + 1 := by omega
      subst this
      intro o d hod ho hd
      exact ⟨x_factor hT hx (ih k (Nat.le_refl _)) o d hod ho hd, x_sum hT hx ih o d hod ho hd, x_piece hT hx (ih k (Nat.le_refl _)) o d hod ho hd, x_cond hT hx ih o d hod ho hd⟩
