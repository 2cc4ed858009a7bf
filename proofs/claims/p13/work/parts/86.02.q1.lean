/-! a text of RULES: signs and numbers, both sides -/
theorem nc {x : Int32} {p : Nat} (h : x.toInt = (p : Int)) : x.toNatClampNeg = p := by
  show x.toInt.toNat = p
  omega
def TXT (T : Nat → Int) (n : Nat) : Prop := n ≤ 160 ∧ (∀ p, 0 ≤ T p ∧ T p ≤ 255) ∧ ∀ p, n ≤ p → T p = 0
def TXX (T : Nat → Int) (n : Nat) (i12 : Int32) (a1 : Nat → Int32) : Prop := i12.toInt = (n : Int) ∧ ∀ p, p < n → (a1 p).toInt = T p
def TXM (T : Nat → Int) (n : Nat) (i10 : Int32) (b1 : Nat → Int32) : Prop := i10.toInt = (n : Int) ∧ ∀ p, p < n → (b1 p &&& 255).toInt = T p
theorem sg_of {T : Nat → Int} {n p : Nat} {i12 i13 : Int32} {a1 : Nat → Int32} (hT : TXT T n) (hx : TXX T n i12 a1) (hp : i13.toInt = (p : Int)) : (p < n ∧ (F_x3_sign i12 i13 a1).toInt = T p) ∨ (n ≤ p ∧ T p = 0 ∧ (F_x3_sign i12 i13 a1).toInt = -1) := by
  obtain ⟨h1, h2, h3⟩ := hT
  obtain ⟨x1, x2⟩ := hx
  unfold F_x3_sign
  rw [if_neg (by omega)]
  unfold f_x3_sign_b_4
  by_cases q : p < n
  · left
    rw [if_neg (by omega)]
    unfold f_x3_sign_b_8
    rw [if_neg (by omega)]
    refine ⟨q, ?_⟩
    show (a1 i13.toNatClampNeg).toInt = T p
    rw [nc hp]; exact x2 p q
  · right
    rw [if_pos (by omega)]
    exact ⟨by omega, h3 p (by omega), by decide⟩
theorem hr_of {T : Nat → Int} {n p : Nat} {i10 i9 : Int32} {a1 : Nat → Int32} (hT : TXT T n) (hx : TXM T n i10 a1) (hp : i9.toInt = (p : Int)) : (F_m12_here i9 i10 a1).toInt = T p := by
  obtain ⟨h1, h2, h3⟩ := hT
  obtain ⟨x1, x2⟩ := hx
  unfold F_m12_here
  by_cases q : p < n
  · rw [if_neg (by omega)]
    show (a1 i9.toNatClampNeg &&& (255 : Int32)).toInt = T p
    rw [nc hp]; exact x2 p q
  · rw [if_pos (by omega), h3 p (by omega)]
    decide
theorem btw {u a b : Int32} : (a.toInt ≤ u.toInt ∧ u.toInt ≤ b.toInt ∧ F_x3_isBetween u a b = 1) ∨ (¬ (a.toInt ≤ u.toInt ∧ u.toInt ≤ b.toInt) ∧ F_x3_isBetween u a b = 0) := by
  unfold F_x3_isBetween f_x3_isBetween_b_4
  by_cases h : u.toInt < a.toInt
  · right; rw [if_pos h]; exact ⟨by omega, rfl⟩
  · rw [if_neg h]
    by_cases g : u.toInt > b.toInt
    · right; rw [if_pos g]; exact ⟨by omega, rfl⟩
    · left; rw [if_neg g]; exact ⟨by omega, by omega, rfl⟩
theorem lie {u a b : Int32} : (a.toInt ≤ u.toInt ∧ u.toInt ≤ b.toInt ∧ F_m12_lies u a b = 1) ∨ (¬ (a.toInt ≤ u.toInt ∧ u.toInt ≤ b.toInt) ∧ F_m12_lies u a b = 0) := by
  unfold F_m12_lies f_m12_lies_b_4
  by_cases h : u.toInt < a.toInt
  · right; rw [if_pos h]; exact ⟨by omega, rfl⟩
  · rw [if_neg h]
    by_cases g : u.toInt > b.toInt
    · right; rw [if_pos g]; exact ⟨by omega, rfl⟩
    · left; rw [if_neg g]; exact ⟨by omega, by omega, rfl⟩
theorem c48 : (48 : Int32).toInt = 48 := by decide
theorem c57 : (57 : Int32).toInt = 57 := by decide
theorem c1 : (1 : Int32).toInt = 1 := by decide
theorem c0 : (0 : Int32).toInt = 0 := by decide
theorem c10 : (10 : Int32).toInt = 10 := by decide
theorem co1 : (Int32.ofInt 1).toInt = 1 := by decide
theorem n10 : ¬ ((1 : Int32).toInt = 0) := by decide
theorem y10 : (1 : Int32).toInt ≠ 0 := by decide
theorem y00 : (0 : Int32).toInt = 0 := by decide
theorem n00 : ¬ ((0 : Int32).toInt ≠ 0) := by decide
theorem suc_of {x : Int32} {p : Nat} (h : x.toInt = (p : Int)) (hp : p < 2000000000) : (x + 1).toInt = ((p + 1 : Nat) : Int) := by
  have := toInt_add h c1 (by omega) (by omega)
  omega
/-- digits from p on, at most k, their number read on from v -/
def nl (T : Nat → Int) : Nat → Nat → Int → Int × Nat
  | 0, p, v => (v, p)
  | k + 1, p, v => if 48 ≤ T p ∧ T p ≤ 57 then nl T k (p + 1) (10 * v + T p - 48) else (v, p)
def spN (T : Nat → Int) (most : Int) (p : Nat) : Int × Nat × Int :=
  if (nl T 5 p 0).2 = p then (-1000 - (p : Int), p, 0)
  else if 48 ≤ T (nl T 5 p 0).2 ∧ T (nl T 5 p 0).2 ≤ 57 then (-2000 - ((nl T 5 p 0).2 : Int), p, 0)
  else if most < (nl T 5 p 0).1 then (-3000 - (p : Int), p, 0) else (0, (nl T 5 p 0).2, (nl T 5 p 0).1)
def bd : Nat → Int
  | 0 => 100000 | 1 => 10000 | 2 => 1000 | 3 => 100 | 4 => 10 | _ => 1
theorem bd_s {k : Nat} (h : k < 5) : bd k = 10 * bd (k + 1) := by
  match k, h with
  | 0, _ => rfl
  | 1, _ => rfl
  | 2, _ => rfl
  | 3, _ => rfl
  | 4, _ => rfl
  | k + 5, h => omega
theorem bd_l (k : Nat) : bd k ≤ 100000 := by
  unfold bd; split <;> omega
theorem nl_z {T : Nat → Int} {k p : Nat} {v : Int} (h : ¬ (48 ≤ T p ∧ T p ≤ 57)) : nl T k p v = (v, p) := by
  cases k with
  | zero => rfl
  | succ k => unfold nl; rw [if_neg h]
theorem nl_s {T : Nat → Int} {k p : Nat} {v : Int} (h : 48 ≤ T p ∧ T p ≤ 57) : nl T (k + 1) p v = nl T k (p + 1) (10 * v + T p - 48) := by
  show (if 48 ≤ T p ∧ T p ≤ 57 then nl T k (p + 1) (10 * v + T p - 48) else (v, p)) = _
  rw [if_pos h]
theorem nl_b {T : Nat → Int} : ∀ (k p : Nat) (v : Int), k ≤ 5 → 0 ≤ v → v < bd k → 0 ≤ (nl T k p v).1 ∧ (nl T k p v).1 < 100000 ∧ p ≤ (nl T k p v).2 ∧ (nl T k p v).2 ≤ p + k := by
  intro k
  induction k with
  | zero => intro p v _ h1 h2; exact ⟨h1, h2, Nat.le_refl _, Nat.le_refl _⟩
  | succ k ih =>
    intro p v hk h1 h2
    by_cases q : 48 ≤ T p ∧ T p ≤ 57
    · rw [nl_s q]
      have e := bd_s (k := k) (by omega)
      obtain ⟨g1, g2, g3, g4⟩ := ih (p + 1) (10 * v + T p - 48) (by omega) (by omega) (by omega)
      exact ⟨g1, g2, by omega, by omega⟩
    · rw [nl_z q]
      have := bd_l (k + 1)
      exact ⟨h1, by show v < 100000; omega, Nat.le_refl _, by show p ≤ p + (k + 1); omega⟩
theorem nl_n {T : Nat → Int} {n : Nat} (hT : TXT T n) : ∀ (k p : Nat) (v : Int), p ≤ n → (nl T k p v).2 ≤ n := by
  intro k
  induction k with
  | zero => intro p v h; exact h
  | succ k ih =>
    intro p v h
    by_cases q : 48 ≤ T p ∧ T p ≤ 57
    · rw [nl_s q]
      refine ih (p + 1) _ ?_
      by_cases g : p < n
      · omega
      · have := hT.2.2 p (by omega); omega
    · rw [nl_z q]; exact h
theorem spN_at {T : Nat → Int} {n : Nat} {most : Int} {p : Nat} (hT : TXT T n) (hp : p ≤ n) (h : (spN T most p).1 = 0) : p < (spN T most p).2.1 ∧ (spN T most p).2.1 ≤ n ∧ 0 ≤ (spN T most p).2.2 ∧ (spN T most p).2.2 ≤ most ∧ (spN T most p).2.2 < 100000 := by
  have b := nl_b (T := T) 5 p 0 (by omega) (by omega) (by decide)
  have c := nl_n hT 5 p 0 hp
  unfold spN at h ⊢
  by_cases h1 : (nl T 5 p 0).2 = p
  · rw [if_pos h1] at h; simp only at h; omega
  · rw [if_neg h1] at h ⊢
    by_cases h2 : 48 ≤ T (nl T 5 p 0).2 ∧ T (nl T 5 p 0).2 ≤ 57
    · rw [if_pos h2] at h; simp only at h; omega
    · rw [if_neg h2] at h ⊢
      by_cases h3 : most < (nl T 5 p 0).1
      · rw [if_pos h3] at h; simp only at h; omega
      · rw [if_neg h3]
        exact ⟨by show p < (nl T 5 p 0).2; omega, c, b.1, by show (nl T 5 p 0).1 ≤ most; omega, b.2.1⟩
theorem spN_bad {T : Nat → Int} {n : Nat} {most : Int} {p : Nat} (hT : TXT T n) (hp : p ≤ n) : (spN T most p).1 = 0 ∨ ((spN T most p).1 < 0 ∧ -10000 < (spN T most p).1) := by
  have b := nl_b (T := T) 5 p 0 (by omega) (by omega) (by decide)
  have c := nl_n hT 5 p 0 hp
  have h160 := hT.1
  unfold spN
  by_cases h1 : (nl T 5 p 0).2 = p
  · rw [if_pos h1]; simp only; omega
  · rw [if_neg h1]
    by_cases h2 : 48 ≤ T (nl T 5 p 0).2 ∧ T (nl T 5 p 0).2 ≤ 57
    · rw [if_pos h2]; simp only; omega
    · rw [if_neg h2]
      by_cases h3 : most < (nl T 5 p 0).1
      · rw [if_pos h3]; simp only; omega
      · rw [if_neg h3]; exact Or.inl rfl
/-! the class -/
theorem xnum_loop {T : Nat → Int} {n : Nat} {u0 i12 i13 i14 i15 : Int32} {a1 : Nat → Int32} (hT : TXT T n) (hx : TXX T n i12 a1) : ∀ (k : Nat) (x2 x3 y : Int32) (p : Nat) (v : Int), k ≤ 5 → x2.toInt = v → 0 ≤ v → v < bd k → x3.toInt = 5 - (k : Int) → y.toInt = (p : Int) → p ≤ n → ∃ X Y : Int32, f_x3_readNumber_j1 u0 i12 i13 i14 i15 a1 (k + 1) x2 x3 y = f_x3_readNumber_J_6 u0 i12 i13 i14 i15 a1 X Y ∧ X.toInt = (nl T k p v).1 ∧ Y.toInt = ((nl T k p v).2 : Int) := by
  have h160 := hT.1
  intro k
  induction k with
  | zero =>
    intro x2 x3 y p v _ h1 h2 h3 h4 h5 h6
    refine ⟨x2, y, ?_, h1, h5⟩
    show f_x3_readNumber_J_1 u0 i12 i13 i14 i15 a1 x2 x3 y (f_x3_readNumber_j1 u0 i12 i13 i14 i15 a1 0) = _
    unfold f_x3_readNumber_J_1
    rw [if_pos (by omega)]; rfl
  | succ k ih =>
    intro x2 x3 y p v hk h1 h2 h3 h4 h5 h6
    have e := bd_s (k := k) (by omega)
    have e2 := bd_l (k + 1)
    have hs := sg_of hT hx h5
    have step : f_x3_readNumber_j1 u0 i12 i13 i14 i15 a1 (k + 1 + 1) x2 x3 y = if (F_x3_isBetween (F_x3_sign i12 y a1) 48 57).toInt = 0 then f_x3_readNumber_b_75 u0 i12 i13 i14 i15 a1 x2 y else f_x3_readNumber_b_76 i12 a1 x2 x3 y (f_x3_readNumber_j1 u0 i12 i13 i14 i15 a1 (k + 1)) := by
      show f_x3_readNumber_J_1 u0 i12 i13 i14 i15 a1 x2 x3 y (f_x3_readNumber_j1 u0 i12 i13 i14 i15 a1 (k + 1)) = _
      unfold f_x3_readNumber_J_1
      rw [if_neg (by omega)]; rfl
    rw [step]
    rcases btw (u := F_x3_sign i12 y a1) (a := 48) (b := 57) with ⟨g1, g2, g⟩ | ⟨g1, g⟩
    · rw [c48] at g1; rw [c57] at g2
      have hd : p < n ∧ 48 ≤ T p ∧ T p ≤ 57 ∧ (F_x3_sign i12 y a1).toInt = T p := by omega
      rw [g, if_neg n10, nl_s ⟨hd.2.1, hd.2.2.1⟩]
      have m1 : (x2 * (10 : Int32)).toInt = v * 10 := toInt_mul h1 c10 rfl (by omega) (by omega)
      have m2 := toInt_add m1 hd.2.2.2 (by omega) (by omega)
      have m3 := toInt_sub m2 c48 (by omega) (by omega)
      have m4 := suc_of h5 (by omega)
      have m5 := toInt_add h4 co1 (by omega) (by omega)
      exact ih (x2 * 10 + F_x3_sign i12 y a1 - 48) (x3 + Int32.ofInt 1) (y + 1) (p + 1) (10 * v + T p - 48) (by omega) (by omega) (by omega) (by omega) (by omega) m4 (by omega)
    · rw [c48, c57] at g1
      have hd : ¬ (48 ≤ T p ∧ T p ≤ 57) := by omega
      rw [g, if_pos y00, nl_z hd]
      exact ⟨x2, y, rfl, h1, h5⟩
/-- what the class's readers answer of a spec's answer (bad, place) -/
def XR (r : Int × Nat) (a b : Int32) (t : Int32 × Int32 × Int32 × Int32) : Prop :=
  (r.1 = 0 ∧ t.1 = 1 ∧ t.2.1.toInt = (r.2 : Int) ∧ t.2.2.1 = a ∧ t.2.2.2 = b) ∨ (r.1 < 0 ∧ t.1 = 0 ∧ r.1 = -1000 * t.2.2.1.toInt - t.2.2.2.toInt ∧ 1 ≤ t.2.2.1.toInt ∧ t.2.2.1.toInt ≤ 6 ∧ 0 ≤ t.2.2.2.toInt ∧ t.2.2.2.toInt ≤ 200)
theorem xnum {T : Nat → Int} {n p : Nat} {u0 i12 i13 i14 i15 : Int32} {a1 : Nat → Int32} (hT : TXT T n) (hx : TXX T n i12 a1) (hp : i13.toInt = (p : Int)) (hn : p ≤ n) (hm : 0 ≤ u0.toInt) :
    ((spN T u0.toInt p).1 = 0 ∧ (F_x3_readNumber u0 i12 i13 i14 i15 a1).1.toInt = (spN T u0.toInt p).2.2 ∧ (F_x3_readNumber u0 i12 i13 i14 i15 a1).2.1.toInt = ((spN T u0.toInt p).2.1 : Int) ∧ (F_x3_readNumber u0 i12 i13 i14 i15 a1).2.2.1 = i14 ∧ (F_x3_readNumber u0 i12 i13 i14 i15 a1).2.2.2 = i15)
    ∨ ((spN T u0.toInt p).1 < 0 ∧ (F_x3_readNumber u0 i12 i13 i14 i15 a1).1 = -1 ∧ (spN T u0.toInt p).1 = -1000 * (F_x3_readNumber u0 i12 i13 i14 i15 a1).2.2.1.toInt - (F_x3_readNumber u0 i12 i13 i14 i15 a1).2.2.2.toInt ∧ 1 ≤ (F_x3_readNumber u0 i12 i13 i14 i15 a1).2.2.1.toInt ∧ (F_x3_readNumber u0 i12 i13 i14 i15 a1).2.2.1.toInt ≤ 6 ∧ 0 ≤ (F_x3_readNumber u0 i12 i13 i14 i15 a1).2.2.2.toInt ∧ (F_x3_readNumber u0 i12 i13 i14 i15 a1).2.2.2.toInt ≤ 200) := by
  have h160 := hT.1
  obtain ⟨X, Y, e, eX, eY⟩ := xnum_loop (u0 := u0) (i13 := i13) (i14 := i14) (i15 := i15) hT hx 5 0 0 i13 p 0 (by omega) c0 (by omega) (by decide) (by rw [c0]; rfl) hp hn
  have b := nl_b (T := T) 5 p 0 (by omega) (by omega) (by decide)
  have c := nl_n hT 5 p 0 hn
  have e1 : F_x3_readNumber u0 i12 i13 i14 i15 a1 = f_x3_readNumber_J_6 u0 i12 i13 i14 i15 a1 X Y := e
  have q1 : (1 : Int32).toInt = 1 := c1
  have q2 : (2 : Int32).toInt = 2 := by decide
  have q3 : (3 : Int32).toInt = 3 := by decide
  rw [e1]
  unfold f_x3_readNumber_J_6 spN
  by_cases g1 : (nl T 5 p 0).2 = p
  · rw [if_pos g1, if_neg (show ¬ (Y.toInt ≠ i13.toInt) by omega)]
    right
    refine ⟨by show -1000 - (p : Int) < 0; omega, rfl, ?_, ?_, ?_, ?_, ?_⟩
    · show -1000 - (p : Int) = -1000 * (1 : Int32).toInt - Y.toInt; omega
    · show 1 ≤ (1 : Int32).toInt; omega
    · show (1 : Int32).toInt ≤ 6; omega
    · show 0 ≤ Y.toInt; omega
    · show Y.toInt ≤ 200; omega
  · rw [if_neg g1, if_pos (show Y.toInt ≠ i13.toInt by omega)]
    have hs := sg_of hT hx eY
    show _ ∨ _
    have e2 : f_x3_readNumber_b_8 u0 i12 i13 i14 i15 a1 X Y = if (F_x3_isBetween (F_x3_sign i12 Y a1) 48 57).toInt = 0 then f_x3_readNumber_b_18 u0 i13 i14 i15 X Y else f_x3_readNumber_b_37 Y := rfl
    rw [e2]
    rcases btw (u := F_x3_sign i12 Y a1) (a := 48) (b := 57) with ⟨k1, k2, k⟩ | ⟨k1, k⟩
    · rw [c48] at k1; rw [c57] at k2
      rw [k, if_neg n10, if_pos (show 48 ≤ T (nl T 5 p 0).2 ∧ T (nl T 5 p 0).2 ≤ 57 by omega)]
      right
      refine ⟨by show -2000 - ((nl T 5 p 0).2 : Int) < 0; omega, rfl, ?_, ?_, ?_, ?_, ?_⟩
      · show -2000 - ((nl T 5 p 0).2 : Int) = -1000 * (2 : Int32).toInt - Y.toInt; omega
      · show 1 ≤ (2 : Int32).toInt; omega
      · show (2 : Int32).toInt ≤ 6; omega
      · show 0 ≤ Y.toInt; omega
      · show Y.toInt ≤ 200; omega
    · rw [c48, c57] at k1
      rw [k, if_pos y00, if_neg (show ¬ (48 ≤ T (nl T 5 p 0).2 ∧ T (nl T 5 p 0).2 ≤ 57) by omega)]
      unfold f_x3_readNumber_b_18
      by_cases k2 : u0.toInt < (nl T 5 p 0).1
      · rw [if_pos k2, if_neg (show ¬ X.toInt ≤ u0.toInt by omega)]
        right
        refine ⟨by show -3000 - (p : Int) < 0; omega, rfl, ?_, ?_, ?_, ?_, ?_⟩
        · show -3000 - (p : Int) = -1000 * (3 : Int32).toInt - i13.toInt; omega
        · show 1 ≤ (3 : Int32).toInt; omega
        · show (3 : Int32).toInt ≤ 6; omega
        · show 0 ≤ i13.toInt; omega
        · show i13.toInt ≤ 200; omega
      · rw [if_neg k2, if_pos (show X.toInt ≤ u0.toInt by omega)]
        left
        exact ⟨rfl, eX, eY, rfl, rfl⟩
/-! the reference -/
theorem good1 {x : Int32} (h : x.toInt = 0) : F_m12_isGood x = 1 := by
  unfold F_m12_isGood; rw [if_neg (by omega)]; rfl
theorem good0 {x : Int32} (h : x.toInt ≠ 0) : F_m12_isGood x = 0 := by
  unfold F_m12_isGood; rw [if_pos h]; rfl
theorem fl0 {f a x : Int32} (h : x.toInt = 0) (hf : 0 ≤ f.toInt ∧ f.toInt ≤ 6) (ha : 0 ≤ a.toInt ∧ a.toInt ≤ 1000) : (F_m12_fails f a x).toInt = -1000 * f.toInt - a.toInt := by
  unfold F_m12_fails
  rw [if_pos (by omega)]
  have k : (-1000 : Int32).toInt = -1000 := by decide
  have m : ((-1000 : Int32) * f).toInt = -1000 * f.toInt := toInt_mul k rfl rfl (by omega) (by omega)
  exact toInt_sub m rfl (by omega) (by omega)
theorem fl1 {f a x : Int32} (h : x.toInt < 0) : F_m12_fails f a x = x := by
  unfold F_m12_fails; rw [if_neg (by omega)]; rfl
theorem sd {T : Nat → Int} {n p : Nat} {i10 i9 : Int32} {a1 : Nat → Int32} (hT : TXT T n) (hx : TXM T n i10 a1) (hp : i9.toInt = (p : Int)) : (48 ≤ T p ∧ T p ≤ 57 ∧ F_m12_seesDigit i9 i10 a1 = 1) ∨ (¬ (48 ≤ T p ∧ T p ≤ 57) ∧ F_m12_seesDigit i9 i10 a1 = 0) := by
  have h := hr_of hT hx hp
  have e : F_m12_seesDigit i9 i10 a1 = F_m12_lies (F_m12_here i9 i10 a1) 48 57 := rfl
  rw [e]
  rcases lie (u := F_m12_here i9 i10 a1) (a := 48) (b := 57) with ⟨g1, g2, g⟩ | ⟨g1, g⟩
  · rw [c48] at g1; rw [c57] at g2; left; exact ⟨by omega, by omega, g⟩
  · rw [c48, c57] at g1; right; exact ⟨by omega, g⟩
theorem mnum_loop {T : Nat → Int} {n q : Nat} {p0 i9 i10 : Int32} {a1 : Nat → Int32} (hT : TXT T n) (hx : TXM T n i10 a1) (hq : i9.toInt = (q : Int)) (hqn : q ≤ n) (hm : 0 ≤ p0.toInt) : ∀ (k f : Nat) (x y b : Int32) (p : Nat) (v : Int), k ≤ 5 → x.toInt = v → 0 ≤ v → v < bd k → y.toInt = (p : Int) → p = q + 5 - k → p ≤ n → b.toInt = 0 → k + 3 ≤ f →
    ((¬ (48 ≤ T (nl T k p v).2 ∧ T (nl T k p v).2 ≤ 57)) ∧ (f_m12_readsNumber_j8 p0 i9 i10 a1 f x y b).1.toInt = (nl T k p v).1 ∧ (f_m12_readsNumber_j8 p0 i9 i10 a1 f x y b).2.1.toInt = ((nl T k p v).2 : Int) ∧ (f_m12_readsNumber_j8 p0 i9 i10 a1 f x y b).2.2.toInt = if p0.toInt < (nl T k p v).1 then -3000 - (q : Int) else 0)
    ∨ ((48 ≤ T (nl T k p v).2 ∧ T (nl T k p v).2 ≤ 57) ∧ (f_m12_readsNumber_j8 p0 i9 i10 a1 f x y b).2.2.toInt = -2000 - ((nl T k p v).2 : Int)) := by
  have h160 := hT.1
  intro k
  induction k with
  | zero =>
    intro f x y b p v hk h1 h2 h3 h4 h5 h6 h7 h8
    obtain ⟨f, rfl⟩ : ∃ g, f = g + 2 := ⟨f - 2, by omega⟩
    have h3' : v < 100000 := h3
    have step : f_m12_readsNumber_j8 p0 i9 i10 a1 (f + 2) x y b = if (F_m12_seesDigit y i10 a1).toInt = 0 then f_m12_readsNumber_b_44 p0 i9 x y b else f_m12_readsNumber_b_57 i9 i10 a1 x y b (f_m12_readsNumber_j8 p0 i9 i10 a1 (f + 1)) := by
      show (if (F_m12_isGood b).toInt = 0 then f_m12_readsNumber_b_24 p0 i9 x y b else f_m12_readsNumber_b_37 p0 i9 i10 a1 x y b (f_m12_readsNumber_j8 p0 i9 i10 a1 (f + 1))) = _
      rw [good1 h7, if_neg n10]; rfl
    rw [step]
    show _ ∨ _
    rcases sd hT hx h4 with ⟨g1, g2, g⟩ | ⟨g1, g⟩
    · right
      refine ⟨⟨g1, g2⟩, ?_⟩
      rw [g, if_neg n10]
      have c5 : (5 : Int32).toInt = 5 := by decide
      have e5 := toInt_add hq c5 (by omega) (by omega)
      unfold f_m12_readsNumber_b_57
      show (if y.toInt ≠ (i9 + 5).toInt then f_m12_readsNumber_b_73 i10 a1 x y b (f_m12_readsNumber_j8 p0 i9 i10 a1 (f + 1)) else f_m12_readsNumber_b_74 i10 a1 x y b (f_m12_readsNumber_j8 p0 i9 i10 a1 (f + 1))).2.2.toInt = -2000 - (p : Int)
      rw [if_neg (by omega)]
      have c2 : (2 : Int32).toInt = 2 := by decide
      have eb := fl0 (f := 2) (a := y) h7 (by omega) (by omega)
      have step2 : f_m12_readsNumber_b_74 i10 a1 x y b (f_m12_readsNumber_j8 p0 i9 i10 a1 (f + 1)) = f_m12_readsNumber_b_24 p0 i9 (10 * x + F_m12_here y i10 a1 - 48) (y + 1) (F_m12_fails 2 y b) := by
        show (if (F_m12_isGood (F_m12_fails 2 y b)).toInt = 0 then f_m12_readsNumber_b_24 p0 i9 (10 * x + F_m12_here y i10 a1 - 48) (y + 1) (F_m12_fails 2 y b) else f_m12_readsNumber_b_37 p0 i9 i10 a1 (10 * x + F_m12_here y i10 a1 - 48) (y + 1) (F_m12_fails 2 y b) (f_m12_readsNumber_j8 p0 i9 i10 a1 f)) = _
        rw [good0 (by omega), if_pos y00]
      rw [step2]
      unfold f_m12_readsNumber_b_24
      have eb2 : (F_m12_fails 2 y b).toInt = -2000 - (p : Int) := by omega
      split
      · exact eb2
      · show (F_m12_fails 3 i9 (F_m12_fails 2 y b)).toInt = -2000 - (p : Int)
        rw [fl1 (by omega)]; exact eb2
    · left
      refine ⟨g1, ?_⟩
      rw [g, if_pos y00]
      unfold f_m12_readsNumber_b_44
      have c3 : (3 : Int32).toInt = 3 := by decide
      by_cases w : p0.toInt < v
      · rw [if_neg (by omega)]
        refine ⟨h1, h4, ?_⟩
        show (F_m12_fails 3 i9 b).toInt = if p0.toInt < v then -3000 - (q : Int) else 0
        rw [if_pos w]
        have eb := fl0 (f := 3) (a := i9) h7 (by omega) (by omega)
        omega
      · rw [if_pos (by omega)]
        refine ⟨h1, h4, ?_⟩
        show b.toInt = if p0.toInt < v then -3000 - (q : Int) else 0
        rw [if_neg w]; exact h7
  | succ k ih =>
    intro f x y b p v hk h1 h2 h3 h4 h5 h6 h7 h8
    obtain ⟨f, rfl⟩ : ∃ g, f = g + 1 := ⟨f - 1, by omega⟩
    have e := bd_s (k := k) (by omega)
    have e2 := bd_l (k + 1)
    have step : f_m12_readsNumber_j8 p0 i9 i10 a1 (f + 1) x y b = if (F_m12_seesDigit y i10 a1).toInt = 0 then f_m12_readsNumber_b_44 p0 i9 x y b else f_m12_readsNumber_b_57 i9 i10 a1 x y b (f_m12_readsNumber_j8 p0 i9 i10 a1 f) := by
      show (if (F_m12_isGood b).toInt = 0 then f_m12_readsNumber_b_24 p0 i9 x y b else f_m12_readsNumber_b_37 p0 i9 i10 a1 x y b (f_m12_readsNumber_j8 p0 i9 i10 a1 f)) = _
      rw [good1 h7, if_neg n10]; rfl
    rw [step]
    show _ ∨ _
    rcases sd hT hx h4 with ⟨g1, g2, g⟩ | ⟨g1, g⟩
    · rw [g, if_neg n10, nl_s ⟨g1, g2⟩]
      have c5 : (5 : Int32).toInt = 5 := by decide
      have e5 := toInt_add hq c5 (by omega) (by omega)
      have hr := hr_of hT hx h4
      have step2 : f_m12_readsNumber_b_57 i9 i10 a1 x y b (f_m12_readsNumber_j8 p0 i9 i10 a1 f) = f_m12_readsNumber_j8 p0 i9 i10 a1 f (10 * x + F_m12_here y i10 a1 - 48) (y + 1) b := by
        show (if y.toInt ≠ (i9 + 5).toInt then f_m12_readsNumber_b_73 i10 a1 x y b (f_m12_readsNumber_j8 p0 i9 i10 a1 f) else f_m12_readsNumber_b_74 i10 a1 x y b (f_m12_readsNumber_j8 p0 i9 i10 a1 f)) = _
        rw [if_pos (by omega)]; rfl
      rw [step2]
      have hpn : p < n := by
        by_cases w : p < n
        · exact w
        · have := hT.2.2 p (by omega); omega
      have m1 : ((10 : Int32) * x).toInt = 10 * v := toInt_mul c10 h1 rfl (by omega) (by omega)
      have m2 := toInt_add m1 hr (by omega) (by omega)
      have m3 := toInt_sub m2 c48 (by omega) (by omega)
      have m4 := suc_of h4 (by omega)
      exact ih f (10 * x + F_m12_here y i10 a1 - 48) (y + 1) b (p + 1) (10 * v + T p - 48) (by omega) (by omega) (by omega) (by omega) m4 (by omega) (by omega) h7 (by omega)
    · rw [g, if_pos y00, nl_z g1]
      left
      refine ⟨g1, ?_⟩
      unfold f_m12_readsNumber_b_44
      have c3 : (3 : Int32).toInt = 3 := by decide
      by_cases w : p0.toInt < v
      · rw [if_neg (by omega)]
        refine ⟨h1, h4, ?_⟩
        show (F_m12_fails 3 i9 b).toInt = if p0.toInt < v then -3000 - (q : Int) else 0
        rw [if_pos w]
        have eb := fl0 (f := 3) (a := i9) h7 (by omega) (by omega)
        omega
      · rw [if_pos (by omega)]
        refine ⟨h1, h4, ?_⟩
        show b.toInt = if p0.toInt < v then -3000 - (q : Int) else 0
        rw [if_neg w]; exact h7
/-- the reference's answer: (value, place, bad) -/
theorem mnum {T : Nat → Int} {n p : Nat} {p0 i9 i10 i11 : Int32} {a1 : Nat → Int32} (hT : TXT T n) (hx : TXM T n i10 a1) (hp : i9.toInt = (p : Int)) (hn : p ≤ n) (hm : 0 ≤ p0.toInt) (hg : i11.toInt = 0) :
    ((spN T p0.toInt p).1 = 0 ∧ (F_m12_readsNumber p0 i9 i10 i11 a1).1.toInt = (spN T p0.toInt p).2.2 ∧ (F_m12_readsNumber p0 i9 i10 i11 a1).2.1.toInt = ((spN T p0.toInt p).2.1 : Int) ∧ (F_m12_readsNumber p0 i9 i10 i11 a1).2.2.toInt = 0)
    ∨ ((spN T p0.toInt p).1 < 0 ∧ (F_m12_readsNumber p0 i9 i10 i11 a1).2.2.toInt = (spN T p0.toInt p).1) := by
  have h160 := hT.1
  have b := nl_b (T := T) 5 p 0 (by omega) (by omega) (by decide)
  have e : F_m12_readsNumber p0 i9 i10 i11 a1 = if (F_m12_seesDigit i9 i10 a1).toInt ≠ 0 then f_m12_readsNumber_b_7 p0 i9 i10 i11 a1 else f_m12_readsNumber_b_82 p0 i9 i10 i11 a1 := rfl
  rw [e]
  rcases sd hT hx hp with ⟨g1, g2, g⟩ | ⟨g1, g⟩
  · rw [g, if_pos y10]
    have L := mnum_loop (p0 := p0) hT hx hp hn hm 5 181 0 i9 i11 p 0 (by omega) c0 (by omega) (by decide) hp (by omega) hn hg (by omega)
    have e2 : f_m12_readsNumber_b_7 p0 i9 i10 i11 a1 = f_m12_readsNumber_j8 p0 i9 i10 a1 181 0 i9 i11 := rfl
    rw [e2]
    have b2 := nl_b (T := T) 4 (p + 1) (10 * 0 + T p - 48) (by omega) (by omega) (by show _ < (10 : Int); omega)
    have e3 : nl T 5 p 0 = nl T 4 (p + 1) (10 * 0 + T p - 48) := nl_s ⟨g1, g2⟩
    have hne : ¬ ((nl T 5 p 0).2 = p) := by rw [e3]; omega
    unfold spN
    rw [if_neg hne]
    rcases L with ⟨l1, l2, l3, l4⟩ | ⟨l1, l2⟩
    · rw [if_neg l1]
      by_cases w : p0.toInt < (nl T 5 p 0).1
      · rw [if_pos w] at l4 ⊢
        right
        exact ⟨by show -3000 - (p : Int) < 0; omega, l4⟩
      · rw [if_neg w] at l4 ⊢
        left
        exact ⟨rfl, l2, l3, l4⟩
    · rw [if_pos l1]
      right
      exact ⟨by show -2000 - ((nl T 5 p 0).2 : Int) < 0; omega, l2⟩
  · rw [g, if_neg n00]
    have c1' : (1 : Int32).toInt = 1 := c1
    have eb := fl0 (f := 1) (a := i9) hg (by omega) (by omega)
    have hz : nl T 5 p 0 = (0, p) := nl_z g1
    have step : f_m12_readsNumber_b_82 p0 i9 i10 i11 a1 = f_m12_readsNumber_b_106 p0 i9 0 i9 (F_m12_fails 1 i9 i11) := by
      show (if (F_m12_isGood (F_m12_fails 1 i9 i11)).toInt = 0 then f_m12_readsNumber_b_106 p0 i9 0 i9 (F_m12_fails 1 i9 i11) else f_m12_readsNumber_b_119 p0 i9 i10 a1 0 i9 (F_m12_fails 1 i9 i11) (f_m12_readsNumber_j90 p0 i9 i10 a1 180)) = _
      rw [good0 (by omega), if_pos y00]
    rw [step]
    unfold f_m12_readsNumber_b_106 spN
    rw [hz, if_pos rfl, if_pos (by rw [c0]; exact hm)]
    right
    exact ⟨by show -1000 - (p : Int) < 0; omega, by show (F_m12_fails 1 i9 i11).toInt = -1000 - (p : Int); omega⟩
