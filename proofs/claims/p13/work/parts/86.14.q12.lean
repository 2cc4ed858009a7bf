/-! rows of copies, on both sides -/
def RWS (r9n : Nat → Nat) (r9c : Nat → Nat → Int32) (b4 b5 : Nat → Int32) : Prop := ∀ x, x < 180 → (0 ≤ (b4 x).toInt ∧ (b4 x).toInt ≤ 8) ∧ (r9n x : Int) = (if (b4 x).toInt = 0 then 0 else (b4 x).toInt + 1) ∧ ∀ i : Nat, (i : Int) < (b4 x).toInt → r9c x i = b5 (8 * x + i)
theorem xhas {u i3 : Int32} : ((0 ≤ u.toInt ∧ u.toInt < i3.toInt) ∧ F_x9_has u i3 = 1) ∨ (¬ (0 ≤ u.toInt ∧ u.toInt < i3.toInt) ∧ F_x9_has u i3 = 0) := by
  unfold F_x9_has f_x9_has_b_4
  by_cases h : u.toInt < 0
  · right; rw [if_pos h]; exact ⟨by omega, rfl⟩
  · rw [if_neg h]
    by_cases g : u.toInt ≥ i3.toInt
    · right; rw [if_pos g]; exact ⟨by omega, rfl⟩
    · left; rw [if_neg g]; exact ⟨by omega, rfl⟩
theorem mver {u i2 : Int32} (h0 : 0 ≤ i2.toInt) : ((0 ≤ u.toInt ∧ u.toInt < i2.toInt) ∧ F_m12_isVerse u i2 = 1) ∨ (¬ (0 ≤ u.toInt ∧ u.toInt < i2.toInt) ∧ F_m12_isVerse u i2 = 0) := by
  have hb : i2.toInt < 2147483648 := Int32.toInt_lt i2
  have e := toInt_sub (x := i2) rfl c1 (by omega) (by omega)
  have e0 := c0
  have e2 : F_m12_isVerse u i2 = F_m12_lies u 0 (i2 - 1) := rfl
  rw [e2]
  rcases lie (u := u) (a := 0) (b := i2 - 1) with ⟨g1, g2, g⟩ | ⟨g1, g⟩
  · exact Or.inl ⟨by omega, g⟩
  · exact Or.inr ⟨by omega, g⟩
theorem xcop {u : Int32} : ((0 ≤ u.toInt ∧ u.toInt ≤ 2) ∧ F_x11_isCopy u = 1) ∨ (¬ (0 ≤ u.toInt ∧ u.toInt ≤ 2) ∧ F_x11_isCopy u = 0) := by
  unfold F_x11_isCopy f_x11_isCopy_b_4
  by_cases h : u.toInt < 0
  · right; rw [if_pos h]; exact ⟨by omega, rfl⟩
  · rw [if_neg h]
    by_cases g : u.toInt > 2
    · right; rw [if_pos g]; exact ⟨by omega, rfl⟩
    · left; rw [if_neg g]; exact ⟨by omega, rfl⟩
theorem mcop {u : Int32} : ((0 ≤ u.toInt ∧ u.toInt ≤ 2) ∧ F_m12_lies u 0 2 = 1) ∨ (¬ (0 ≤ u.toInt ∧ u.toInt ≤ 2) ∧ F_m12_lies u 0 2 = 0) := by
  have e0 := c0
  have e2 : (2 : Int32).toInt = 2 := by decide
  rcases lie (u := u) (a := 0) (b := 2) with ⟨g1, g2, g⟩ | ⟨g1, g⟩
  · exact Or.inl ⟨by omega, g⟩
  · exact Or.inr ⟨by omega, g⟩
theorem xth {u m i0 : Int32} : ((1 ≤ u.toInt ∧ u.toInt ≤ m.toInt ∧ u.toInt ≤ i0.toInt) ∧ F_x11_tapeHas u m i0 = 1) ∨ (¬ (1 ≤ u.toInt ∧ u.toInt ≤ m.toInt ∧ u.toInt ≤ i0.toInt) ∧ F_x11_tapeHas u m i0 = 0) := by
  rw [E_x11_tapeHas]
  by_cases h : u.toInt < 1
  · right; rw [if_pos h]; exact ⟨by omega, rfl⟩
  · rw [if_neg h]
    by_cases g : u.toInt > m.toInt
    · right; rw [if_pos g]; exact ⟨by omega, rfl⟩
    · rw [if_neg g]
      by_cases k : u.toInt > i0.toInt
      · right; rw [if_pos k]; exact ⟨by omega, rfl⟩
      · left; rw [if_neg k]; exact ⟨by omega, rfl⟩
theorem idx3 {x y : Int32} {v c : Nat} (hx : x.toInt = (v : Int)) (hy : y.toInt = (c : Int)) (hv : v < 60) (hc : c ≤ 2) : (x * 3 + y).toInt = ((3 * v + c : Nat) : Int) ∧ (3 * x + y).toInt = ((3 * v + c : Nat) : Int) := by
  have e3 : (3 : Int32).toInt = 3 := by decide
  have m1 : (x * (3 : Int32)).toInt = (v : Int) * 3 := toInt_mul hx e3 rfl (by omega) (by omega)
  have m2 : ((3 : Int32) * x).toInt = 3 * (v : Int) := toInt_mul e3 hx rfl (by omega) (by omega)
  have m3 := toInt_add m1 hy (by omega) (by omega)
  have m4 := toInt_add m2 hy (by omega) (by omega)
  exact ⟨by omega, by omega⟩
/-- the tokens of the tape are looked at -/
theorem src_tok {u i0 p0 p1 : Int32} {a1 b1 a4 a5 : Nat → Int32} (hT : TPR a1 b1) : ∀ (m f g : Nat) (x : Int32) (k : Nat), x.toInt = (k : Int) → u.toInt = (k : Int) + m → k + m ≤ 200 → m < f → m < g →
    (f_x11_tapeHasTokens_j1 u a1 f x = 1 ∧ f_m12_source_j28 p0 p1 u i0 b1 a4 a5 g x = f_m12_source_j36 u b1 (3 * p0 + p1) (upd a4 (3 * p0 + p1).toNatClampNeg u) 201 0 a5) ∨ (f_x11_tapeHasTokens_j1 u a1 f x = 0 ∧ f_m12_source_j28 p0 p1 u i0 b1 a4 a5 g x = ((0 : Int32), i0, a4, a5)) := by
  intro m
  induction m with
  | zero =>
    intro f g x k hx hu _ hf hg
    obtain ⟨f, rfl⟩ : ∃ w, f = w + 1 := ⟨f - 1, by omega⟩
    obtain ⟨g, rfl⟩ : ∃ w, g = w + 1 := ⟨g - 1, by omega⟩
    rw [S_x11_tapeHasTokens_j1, S_m12_source_j28, if_pos (by omega), if_pos (by omega)]
    exact Or.inl ⟨rfl, rfl⟩
  | succ m ih =>
    intro f g x k hx hu hk hf hg
    obtain ⟨f, rfl⟩ : ∃ w, f = w + 1 := ⟨f - 1, by omega⟩
    obtain ⟨g, rfl⟩ : ∃ w, g = w + 1 := ⟨g - 1, by omega⟩
    have o1 := co1
    have hx1 := toInt_add hx o1 (by omega) (by omega)
    rw [S_x11_tapeHasTokens_j1, S_m12_source_j28, if_neg (show ¬ x.toInt ≥ u.toInt by omega), if_neg (show ¬ x.toInt ≥ u.toInt by omega), TPR_and hT]
    by_cases w : (a1 x.toNatClampNeg).toInt < 160
    · rw [if_pos w, if_pos w]
      exact ih f g (x + Int32.ofInt 1) (k + 1) (by omega) (by omega) (by omega) (by omega) (by omega)
    · rw [if_neg w, if_neg w]; exact Or.inr ⟨rfl, rfl⟩
theorem put_row {u0 u1 u : Int32} {a1 : Nat → Int32} {r9n : Nat → Nat} {r9c : Nat → Nat → Int32} {N : Nat} : ∀ (m f : Nat) (x : Int32) (k : Nat) (g : Nat → Int32), x.toInt = (k : Int) → u.toInt = (k : Int) + m → k + m ≤ 200 → m < f →
    ∃ g' : Nat → Int32, f_x9_putRow_j22 u0 u1 u a1 r9n r9c N f x g = (up9n r9n (u0 * 3 + u1).toNatClampNeg (N + 1), up9c r9c (u0 * 3 + u1).toNatClampNeg g') ∧ ∀ i, i < k + m → g' i = if i < k then g i else a1 i := by
  intro m
  induction m with
  | zero =>
    intro f x k g hx hu _ hf
    obtain ⟨f, rfl⟩ : ∃ w, f = w + 1 := ⟨f - 1, by omega⟩
    refine ⟨g, ?_, fun i hi => by rw [if_pos (by omega)]⟩
    rw [S_x9_putRow_j22, if_pos (by omega)]
  | succ m ih =>
    intro f x k g hx hu hk hf
    obtain ⟨f, rfl⟩ : ∃ w, f = w + 1 := ⟨f - 1, by omega⟩
    have o1 := co1
    have hx1 := toInt_add hx o1 (by omega) (by omega)
    obtain ⟨g', e, h⟩ := ih f (x + Int32.ofInt 1) (k + 1) (upd g x.toNatClampNeg (a1 x.toNatClampNeg)) (by omega) (by omega) (by omega) (by omega)
    refine ⟨g', ?_, fun i hi => ?_⟩
    · rw [S_x9_putRow_j22, if_neg (by omega)]; exact e
    · rw [h i (by omega), nc hx]
      unfold upd
      by_cases w : i < k
      · rw [if_pos (by omega), if_neg (by omega), if_pos w]
      · rw [if_neg w]
        by_cases w2 : i = k
        · rw [if_pos (by omega), if_pos w2, w2]
        · rw [if_neg (by omega)]
theorem put_tok {u z : Int32} {b1 a4 : Nat → Int32} {zz : Nat} (hz : z.toInt = (zz : Int)) (hz2 : zz < 180) : ∀ (m f : Nat) (x : Int32) (k : Nat) (a5 : Nat → Int32), x.toInt = (k : Int) → u.toInt = (k : Int) + m → k + m ≤ 8 → m < f →
    ∃ b5 : Nat → Int32, f_m12_source_j36 u b1 z a4 f x a5 = ((1 : Int32), (0 : Int32), a4, b5) ∧ ∀ j, b5 j = if 8 * zz + k ≤ j ∧ j < 8 * zz + k + m then b1 (j - 8 * zz) &&& 255 else a5 j := by
  intro m
  induction m with
  | zero =>
    intro f x k a5 hx hu _ hf
    obtain ⟨f, rfl⟩ : ∃ w, f = w + 1 := ⟨f - 1, by omega⟩
    refine ⟨a5, ?_, fun j => by rw [if_neg (by omega)]⟩
    rw [S_m12_source_j36, if_pos (by omega)]
  | succ m ih =>
    intro f x k a5 hx hu hk hf
    obtain ⟨f, rfl⟩ : ∃ w, f = w + 1 := ⟨f - 1, by omega⟩
    have o1 := co1
    have c8 : (8 : Int32).toInt = 8 := by decide
    have hx1 := toInt_add hx o1 (by omega) (by omega)
    have m1 : ((8 : Int32) * z).toInt = 8 * (zz : Int) := toInt_mul c8 hz rfl (by omega) (by omega)
    have m2 := toInt_add m1 hx (by omega) (by omega)
    obtain ⟨b5, e, h⟩ := ih f (x + Int32.ofInt 1) (k + 1) (upd a5 (8 * z + x).toNatClampNeg (b1 x.toNatClampNeg &&& 255)) (by omega) (by omega) (by omega) (by omega)
    refine ⟨b5, ?_, fun j => ?_⟩
    · rw [S_m12_source_j36, if_neg (by omega)]; exact e
    · rw [h j, nc hx, nc (x := 8 * z + x) (p := 8 * zz + k) (by omega)]
      unfold upd
      by_cases w : 8 * zz + (k + 1) ≤ j ∧ j < 8 * zz + (k + 1) + m
      · rw [if_pos w, if_pos (by omega)]
      · rw [if_neg w]
        by_cases w2 : j = 8 * zz + k
        · rw [if_pos w2, if_pos (by omega)]
          congr 2; omega
        · rw [if_neg w2, if_neg (by omega)]
theorem R_source {u0 u1 u2 i0 i3 : Int32} {a1 b1 b4 b5 : Nat → Int32} {r9n : Nat → Nat} {r9c : Nat → Nat → Int32} (hi : 0 ≤ i0.toInt ∧ i0.toInt ≤ 200) (hv : 0 ≤ i3.toInt ∧ i3.toInt ≤ 60) (hT : TPR a1 b1) (hR : RWS r9n r9c b4 b5) :
    (F_x11_source u0 u1 u2 i0 i3 a1 r9n r9c).1 = (F_m12_source u0 u1 u2 i0 i3 b1 b4 b5).1 ∧ (F_x11_source u0 u1 u2 i0 i3 a1 r9n r9c).2.1 = (F_m12_source u0 u1 u2 i0 i3 b1 b4 b5).2.1 ∧ RWS (F_x11_source u0 u1 u2 i0 i3 a1 r9n r9c).2.2.1 (F_x11_source u0 u1 u2 i0 i3 a1 r9n r9c).2.2.2 (F_m12_source u0 u1 u2 i0 i3 b1 b4 b5).2.2.1 (F_m12_source u0 u1 u2 i0 i3 b1 b4 b5).2.2.2 ∧ 0 ≤ (F_x11_source u0 u1 u2 i0 i3 a1 r9n r9c).2.1.toInt ∧ (F_x11_source u0 u1 u2 i0 i3 a1 r9n r9c).2.1.toInt ≤ 200 := by
  have no : ∀ {x : Int32 × Int32 × (Nat → Nat) × (Nat → Nat → Int32)} {y : Int32 × Int32 × (Nat → Int32) × (Nat → Int32)}, x = ((0 : Int32), i0, r9n, r9c) → y = ((0 : Int32), i0, b4, b5) → x.1 = y.1 ∧ x.2.1 = y.2.1 ∧ RWS x.2.2.1 x.2.2.2 y.2.2.1 y.2.2.2 ∧ 0 ≤ x.2.1.toInt ∧ x.2.1.toInt ≤ 200 := by
    intro x y hx hy
    subst hx; subst hy
    exact ⟨rfl, rfl, hR, hi⟩
  have e8 : (8 : Int32).toInt = 8 := by decide
  have e1 := c1
  have e0 := c0
  rw [E_x11_source, E_m12_source]
  rcases xhas (u := u0) (i3 := i3) with ⟨h1, h⟩ | ⟨h1, h⟩
  · rcases mver (u := u0) (i2 := i3) hv.1 with ⟨_, g⟩ | ⟨g1, _⟩
    · rw [h, g, if_neg n10, if_neg n10]
      rcases xcop (u := u1) with ⟨k1, k⟩ | ⟨k1, k⟩
      · rcases mcop (u := u1) with ⟨_, l⟩ | ⟨l1, _⟩
        · rw [k, l, if_neg n10, if_neg n10]
          rcases xth (u := u2) (m := 8) (i0 := i0) with ⟨t1, t⟩ | ⟨t1, t⟩
          · rw [t, if_neg n10]
            rcases lie (u := u2) (a := 1) (b := 8) with ⟨q1, q2, q⟩ | ⟨q1, q⟩
            · rw [q, if_neg n10, if_pos (show u2.toInt ≤ i0.toInt by omega)]
              obtain ⟨v, hv'⟩ : ∃ v : Nat, u0.toInt = (v : Int) := ⟨u0.toInt.toNat, by omega⟩
              obtain ⟨cc, hc'⟩ : ∃ c : Nat, u1.toInt = (c : Int) := ⟨u1.toInt.toNat, by omega⟩
              obtain ⟨n, hn'⟩ : ∃ n : Nat, u2.toInt = (n : Int) := ⟨u2.toInt.toNat, by omega⟩
              obtain ⟨x1, x2⟩ := idx3 hv' hc' (by omega) (by omega)
              have S := src_tok (u := u2) (i0 := i0) (p0 := u0) (p1 := u1) (a4 := b4) (a5 := b5) hT n 201 201 0 0 c0 (by omega) (by omega) (by omega) (by omega)
              have ef : F_x11_tapeHasTokens u2 a1 = f_x11_tapeHasTokens_j1 u2 a1 201 0 := rfl
              rw [ef]
              rcases S with ⟨s1, s2⟩ | ⟨s1, s2⟩
              · rw [s1, s2, if_pos y10]
                obtain ⟨b5', t5, t5'⟩ := put_tok (u := u2) (b1 := b1) (a4 := upd b4 (3 * u0 + u1).toNatClampNeg u2) x2 (by omega) n 201 0 0 b5 c0 (by omega) (by omega) (by omega)
                rw [t5, E_x9_putRow, h, k, if_neg n10, if_neg n10]
                obtain ⟨g', p1', p2'⟩ := put_row (u0 := u0) (u1 := u1) (u := u2) (a1 := a1) (r9n := r9n) (r9c := r9c) (N := u2.toNatClampNeg) n 9 0 0 z0 c0 (by omega) (by omega) (by omega)
                rw [p1']
                refine ⟨rfl, rfl, ?_, by show 0 ≤ (0 : Int32).toInt; omega, by show (0 : Int32).toInt ≤ 200; omega⟩
                show RWS (up9n r9n (u0 * 3 + u1).toNatClampNeg (u2.toNatClampNeg + 1)) (up9c r9c (u0 * 3 + u1).toNatClampNeg g') (upd b4 (3 * u0 + u1).toNatClampNeg u2) b5'
                rw [nc x1, nc x2, nc hn']
                intro x hx
                obtain ⟨r1, r2, r3⟩ := hR x hx
                unfold up9n up9c upd
                by_cases w : x = 3 * v + cc
                · rw [if_pos w, if_pos w, if_pos w]
                  refine ⟨by omega, by rw [if_neg (by omega)]; omega, fun i hi => ?_⟩
                  rw [p2' i (by omega), if_neg (by omega), t5', if_pos (by omega), TPR_and hT]
                  congr 1; omega
                · rw [if_neg w, if_neg w, if_neg w]
                  refine ⟨r1, r2, fun i hi => ?_⟩
                  rw [t5', if_neg (by omega)]; exact r3 i hi
              · rw [s1, s2, if_neg n00]
                exact no rfl rfl
            · omega
          · rw [t, if_pos y00]
            rcases lie (u := u2) (a := 1) (b := 8) with ⟨q1, q2, q⟩ | ⟨q1, q⟩
            · rw [q, if_neg n10, if_neg (show ¬ u2.toInt ≤ i0.toInt by omega)]; exact no rfl rfl
            · rw [q, if_pos y00]; exact no rfl rfl
        · exact absurd k1 l1
      · rcases mcop (u := u1) with ⟨l1, _⟩ | ⟨_, l⟩
        · exact absurd l1 k1
        · rw [k, l, if_pos y00, if_pos y00]; exact no rfl rfl
    · exact absurd h1 g1
  · rcases mver (u := u0) (i2 := i3) hv.1 with ⟨g1, _⟩ | ⟨_, g⟩
    · exact absurd g1 h1
    · rw [h, g, if_pos y00, if_pos y00]; exact no rfl rfl
/-- what the class's rowOf gives -/
theorem row_of {u0 u1 i3 : Int32} {r9n : Nat → Nat} {r9c : Nat → Nat → Int32} {b4 b5 : Nat → Int32} {v c : Nat} (hR : RWS r9n r9c b4 b5) (h0 : u0.toInt = (v : Int)) (h1 : u1.toInt = (c : Int)) (hv : (v : Int) < i3.toInt) (hi : i3.toInt ≤ 60) (hc : c ≤ 2) :
    ((F_x9_rowOf u0 u1 i3 r9n r9c).1 : Int) = (b4 (3 * v + c)).toInt ∧ ∀ i : Nat, (i : Int) < (b4 (3 * v + c)).toInt → (F_x9_rowOf u0 u1 i3 r9n r9c).2 i = b5 (8 * (3 * v + c) + i) := by
  obtain ⟨x1, x2⟩ := idx3 h0 h1 (by omega) hc
  obtain ⟨r1, r2, r3⟩ := hR (3 * v + c) (by omega)
  rw [E_x9_rowOf]
  rcases xhas (u := u0) (i3 := i3) with ⟨_, h⟩ | ⟨g1, _⟩
  · rcases xcop (u := u1) with ⟨_, k⟩ | ⟨k1, _⟩
    · rw [h, k, if_neg n10, if_pos y10, nc x1]
      by_cases w : (b4 (3 * v + c)).toInt = 0
      · rw [if_pos w] at r2
        rw [if_pos (by omega)]
        exact ⟨by show ((0 : Nat) : Int) = _; omega, fun i hi => by omega⟩
      · rw [if_neg w] at r2
        rw [if_neg (by omega)]
        exact ⟨by show ((r9n (3 * v + c) - 1 : Nat) : Int) = _; omega, r3⟩
    · omega
  · omega
theorem R_token {u0 u1 u2 i3 : Int32} {b4 b5 : Nat → Int32} {r9n : Nat → Nat} {r9c : Nat → Nat → Int32} (hv : 0 ≤ i3.toInt ∧ i3.toInt ≤ 60) (hR : RWS r9n r9c b4 b5) : F_x11_token u0 u1 u2 i3 r9n r9c = F_m12_token u0 u1 u2 i3 b4 b5 := by
  have e0 := c0
  have c8 : (8 : Int32).toInt = 8 := by decide
  rw [E_x11_token, E_m12_token]
  rcases xhas (u := u0) (i3 := i3) with ⟨h1, h⟩ | ⟨h1, h⟩
  · rcases mver (u := u0) (i2 := i3) hv.1 with ⟨_, g⟩ | ⟨g1, _⟩
    · rw [h, g, if_neg n10, if_neg n10]
      rcases xcop (u := u1) with ⟨k1, k⟩ | ⟨k1, k⟩
      · rcases mcop (u := u1) with ⟨_, l⟩ | ⟨l1, _⟩
        · rw [k, l, if_pos y10, if_neg n10]
          obtain ⟨v, hv'⟩ : ∃ v : Nat, u0.toInt = (v : Int) := ⟨u0.toInt.toNat, by omega⟩
          obtain ⟨cc, hc'⟩ : ∃ c : Nat, u1.toInt = (c : Int) := ⟨u1.toInt.toNat, by omega⟩
          obtain ⟨x1, x2⟩ := idx3 hv' hc' (by omega) (by omega)
          obtain ⟨r1, r2⟩ := row_of (i3 := i3) hR hv' hc' (by omega) hv.2 (by omega)
          have rr := (hR (3 * v + cc) (by omega)).1
          rw [nc x2]
          have z1 := toInt_sub (x := b4 (3 * v + cc)) rfl c1 (by omega) (by omega)
          have z2 : (Int32.ofNat (F_x9_rowOf u0 u1 i3 r9n r9c).1).toInt = (b4 (3 * v + cc)).toInt := by
            exact (nI_toInt (by omega)).trans r1
          rcases lie (u := u2) (a := 0) (b := b4 (3 * v + cc) - 1) with ⟨q1, q2, q⟩ | ⟨q1, q⟩
          · rw [q, if_neg n10, if_neg (by omega), if_neg (by omega)]
            obtain ⟨n, hn'⟩ : ∃ n : Nat, u2.toInt = (n : Int) := ⟨u2.toInt.toNat, by omega⟩
            have m1 : ((8 : Int32) * (3 * u0 + u1)).toInt = 8 * ((3 * v + cc : Nat) : Int) := toInt_mul c8 x2 rfl (by omega) (by omega)
            have m2 := toInt_add m1 hn' (by omega) (by omega)
            rw [nc hn', r2 n (by omega), nc (x := 8 * (3 * u0 + u1) + u2) (p := 8 * (3 * v + cc) + n) (by omega)]
          · rw [q, if_pos y00]
            by_cases w : u2.toInt < 0
            · rw [if_pos w]
            · rw [if_neg w, if_pos (by omega)]
        · exact absurd k1 l1
      · rcases mcop (u := u1) with ⟨l1, _⟩ | ⟨_, l⟩
        · exact absurd l1 k1
        · rw [k, l, if_neg n00, if_pos y00]
    · exact absurd h1 g1
  · rcases mver (u := u0) (i2 := i3) hv.1 with ⟨g1, _⟩ | ⟨_, g⟩
    · exact absurd g1 h1
    · rw [h, g, if_pos y00, if_pos y00]
