/-! RULES, on both sides -/
abbrev R19 := Int32 × Int32 × Int32 × Int32 × Int32 × Int32 × Int32 × Int32 × (Nat → Int32) × (Nat → Int32) × (Nat → Int32) × (Nat → Int32) × (Nat → Int32) × (Nat → Int32) × (Nat → Int32) × (Nat → Int32) × (Nat → Int32) × (Nat → Nat) × (Nat → Nat → Int32)
def LAW (i9 : Int32) (a18 a19 a20 a21 a22 a23 a24 a25 b15 b16 b17 b18 b19 b20 b21 b22 : Nat → Int32) : Prop :=
  ∀ i : Nat, (i : Int) < i9.toInt → a18 i = b15 i ∧ a19 i = b16 i ∧ a20 i = b17 i ∧ a21 i = b18 i ∧ (1 ≤ (b18 i).toInt ∧ (b18 i).toInt ≤ 16) ∧ ∀ c : Nat, 16 * i ≤ c → (c : Int) < 16 * (i : Int) + (b18 i).toInt → CLR a22 a23 a24 a25 b19 b20 b21 b22 c
/-- the texts of RULES, and the code of their conditions -/
def RCC (i9 : Int32) (a21 a26 : Nat → Int32) (rtn : Nat → Nat) (rtc : Nat → Nat → Int32) (b23 b24 b25 b26 : Nat → Int32) : Prop :=
  ∀ i : Nat, (i : Int) < i9.toInt → ∃ (T : Nat → Int) (n : Nat) (E : List IN), TXT T n ∧ rtn i = n + 1 ∧ (∀ p, p < n → (rtc i p).toInt = T p) ∧ E.length ≤ 160 ∧ (∀ (k : Nat) (x : IN), E[k]? = some x → (b25 (160 * i + k)).toInt = x.1 ∧ (b26 (160 * i + k)).toInt = x.2) ∧ ∀ c : Nat, 16 * i ≤ c → (c : Int) < 16 * (i : Int) + (a21 i).toInt → CLE T E (a26 c) (b23 c) (b24 c)
/-- what both sides keep of RULES -/
def RLW (x : R19) (m : M25) : Prop :=
  (x.1 = m.1 ∧ x.2.1 = m.2.1 ∧ x.2.2.1 = m.2.2.1 ∧ (0 ≤ x.2.1.toInt ∧ x.2.1.toInt ≤ 200) ∧ (0 ≤ x.2.2.1.toInt ∧ x.2.2.1.toInt ≤ 20) ∧
    LAW x.2.2.1 x.2.2.2.2.2.2.2.2.1 x.2.2.2.2.2.2.2.2.2.1 x.2.2.2.2.2.2.2.2.2.2.1 x.2.2.2.2.2.2.2.2.2.2.2.1 x.2.2.2.2.2.2.2.2.2.2.2.2.1 x.2.2.2.2.2.2.2.2.2.2.2.2.2.1 x.2.2.2.2.2.2.2.2.2.2.2.2.2.2.1 x.2.2.2.2.2.2.2.2.2.2.2.2.2.2.2.1 m.2.2.2.2.2.2.2.2.2.2.2.2.1 m.2.2.2.2.2.2.2.2.2.2.2.2.2.1 m.2.2.2.2.2.2.2.2.2.2.2.2.2.2.1 m.2.2.2.2.2.2.2.2.2.2.2.2.2.2.2.1 m.2.2.2.2.2.2.2.2.2.2.2.2.2.2.2.2.1 m.2.2.2.2.2.2.2.2.2.2.2.2.2.2.2.2.2.1 m.2.2.2.2.2.2.2.2.2.2.2.2.2.2.2.2.2.2.1 m.2.2.2.2.2.2.2.2.2.2.2.2.2.2.2.2.2.2.2.1) ∧
    RCC x.2.2.1 x.2.2.2.2.2.2.2.2.2.2.2.1 x.2.2.2.2.2.2.2.2.2.2.2.2.2.2.2.2.1 x.2.2.2.2.2.2.2.2.2.2.2.2.2.2.2.2.2.1 x.2.2.2.2.2.2.2.2.2.2.2.2.2.2.2.2.2.2 m.2.2.2.2.2.2.2.2.2.2.2.2.2.2.2.2.2.2.2.2.1 m.2.2.2.2.2.2.2.2.2.2.2.2.2.2.2.2.2.2.2.2.2.1 m.2.2.2.2.2.2.2.2.2.2.2.2.2.2.2.2.2.2.2.2.2.2.1 m.2.2.2.2.2.2.2.2.2.2.2.2.2.2.2.2.2.2.2.2.2.2.2.1
theorem xday {u : Int32} : ((0 ≤ u.toInt ∧ u.toInt ≤ 3999) ∧ F_x11_isDay u = 1) ∨ (¬ (0 ≤ u.toInt ∧ u.toInt ≤ 3999) ∧ F_x11_isDay u = 0) := by
  rw [E_x11_isDay]
  by_cases h : u.toInt < 0
  · right; rw [if_pos h]; exact ⟨by omega, rfl⟩
  · rw [if_neg h]
    by_cases g : u.toInt > 3999
    · right; rw [if_pos g]; exact ⟨by omega, rfl⟩
    · left; rw [if_neg g]; exact ⟨by omega, rfl⟩
theorem mlie {u a b : Int32} {c d : Int} (ha : a.toInt = c) (hb : b.toInt = d) : ((c ≤ u.toInt ∧ u.toInt ≤ d) ∧ F_m12_lies u a b = 1) ∨ (¬ (c ≤ u.toInt ∧ u.toInt ≤ d) ∧ F_m12_lies u a b = 0) := by
  rcases lie (u := u) (a := a) (b := b) with ⟨g1, g2, g⟩ | ⟨g1, g⟩
  · exact Or.inl ⟨by omega, g⟩
  · exact Or.inr ⟨by omega, g⟩
theorem mday {u : Int32} : ((0 ≤ u.toInt ∧ u.toInt ≤ 3999) ∧ F_m12_isDay u = 1) ∨ (¬ (0 ≤ u.toInt ∧ u.toInt ≤ 3999) ∧ F_m12_isDay u = 0) := mlie (a := 0) (b := 3999) c0 (by decide)
theorem xcom {u i6 : Int32} : ((0 ≤ u.toInt ∧ u.toInt < i6.toInt) ∧ F_x4_hasCompany u i6 = 1) ∨ (¬ (0 ≤ u.toInt ∧ u.toInt < i6.toInt) ∧ F_x4_hasCompany u i6 = 0) := by
  rw [show F_x4_hasCompany u i6 = if u.toInt < 0 then (0 : Int32) else (if u.toInt ≥ i6.toInt then (0 : Int32) else (1 : Int32)) from rfl]
  by_cases h : u.toInt < 0
  · right; rw [if_pos h]; exact ⟨by omega, rfl⟩
  · rw [if_neg h]
    by_cases g : u.toInt ≥ i6.toInt
    · right; rw [if_pos g]; exact ⟨by omega, rfl⟩
    · left; rw [if_neg g]; exact ⟨by omega, rfl⟩
theorem xfull {i9 : Int32} : (i9.toInt < 20 ∧ F_x2_isFull i9 = 0) ∨ (20 ≤ i9.toInt ∧ F_x2_isFull i9 = 1) := by
  rw [E_x2_isFull]
  by_cases h : i9.toInt < 20
  · left; rw [if_pos h]; exact ⟨h, rfl⟩
  · right; rw [if_neg h]; exact ⟨by omega, rfl⟩
section RUL
variable {u0 u1 u2 u3 i0 i6 i9 i12 i13 i14 i15 i16 : Int32} {a1 a18 a19 a20 a21 a22 a23 a24 a25 a26 : Nat → Int32} {rtn : Nat → Nat} {rtc : Nat → Nat → Int32}
def Grd (u1 u2 u3 i0 i9 : Int32) : Prop := (0 ≤ u1.toInt ∧ u1.toInt ≤ 3999) ∧ (0 ≤ u2.toInt ∧ u2.toInt ≤ 3999) ∧ u1.toInt ≤ u2.toInt ∧ i9.toInt < 20 ∧ (1 ≤ u3.toInt ∧ u3.toInt ≤ 160 ∧ u3.toInt ≤ i0.toInt)
noncomputable def XCR (u0 u1 u2 u3 i9 : Int32) (a1 a18 a19 a20 a21 : Nat → Int32) (rtn : Nat → Nat) (rtc : Nat → Nat → Int32) (t : R11) : R19 :=
  if t.1.toInt = 0 then ((F_x2_enact u3 (F_x3_clausesRead t.2.2.2.2.2.1) i9 a1 a21 rtn rtc).1, (0 : Int32), (F_x2_enact u3 (F_x3_clausesRead t.2.2.2.2.2.1) i9 a1 a21 rtn rtc).2.1, t.2.1, t.2.2.1, t.2.2.2.1, t.2.2.2.2.1, t.2.2.2.2.2.1, (F_x2_putDays u0 u1 u2 i9 a18 a19 a20).1, (F_x2_putDays u0 u1 u2 i9 a18 a19 a20).2.1, (F_x2_putDays u0 u1 u2 i9 a18 a19 a20).2.2, (F_x2_enact u3 (F_x3_clausesRead t.2.2.2.2.2.1) i9 a1 a21 rtn rtc).2.2.1, t.2.2.2.2.2.2.1, t.2.2.2.2.2.2.2.1, t.2.2.2.2.2.2.2.2.1, t.2.2.2.2.2.2.2.2.2.1, t.2.2.2.2.2.2.2.2.2.2, (F_x2_enact u3 (F_x3_clausesRead t.2.2.2.2.2.1) i9 a1 a21 rtn rtc).2.2.2.1, (F_x2_enact u3 (F_x3_clausesRead t.2.2.2.2.2.1) i9 a1 a21 rtn rtc).2.2.2.2)
  else (t.1, (0 : Int32), i9, t.2.1, t.2.2.1, t.2.2.2.1, t.2.2.2.2.1, t.2.2.2.2.2.1, a18, a19, a20, a21, t.2.2.2.2.2.2.1, t.2.2.2.2.2.2.2.1, t.2.2.2.2.2.2.2.2.1, t.2.2.2.2.2.2.2.2.2.1, t.2.2.2.2.2.2.2.2.2.2, rtn, rtc)
theorem xrj : (Grd u1 u2 u3 i0 i9 ∧ f_x11_rules_j1 u0 u1 u2 u3 i0 i9 i12 i13 i14 i15 i16 a1 a18 a19 a20 a21 a22 a23 a24 a25 a26 rtn rtc = XCR u0 u1 u2 u3 i9 a1 a18 a19 a20 a21 rtn rtc (F_x3_read u3 i9 i15 a1 a22 a23 a24 a25 a26)) ∨
    (¬ Grd u1 u2 u3 i0 i9 ∧ f_x11_rules_j1 u0 u1 u2 u3 i0 i9 i12 i13 i14 i15 i16 a1 a18 a19 a20 a21 a22 a23 a24 a25 a26 rtn rtc = ((-1 : Int32), i0, i9, i12, i13, i14, i15, i16, a18, a19, a20, a21, a22, a23, a24, a25, a26, rtn, rtc)) := by
  have c160 : (160 : Int32).toInt = 160 := by decide
  rw [E_x11_rules_j1]
  unfold Grd
  rcases xday (u := u1) with ⟨h1, h⟩ | ⟨h1, h⟩
  · rw [h, if_neg n10]
    rcases xday (u := u2) with ⟨g1, g⟩ | ⟨g1, g⟩
    · rw [g, if_neg n10]
      by_cases w : u2.toInt ≥ u1.toInt
      · rw [if_pos w]
        rcases xfull (i9 := i9) with ⟨k1, k⟩ | ⟨k1, k⟩
        · rw [k, if_neg n00]
          rcases xth (u := u3) (m := 160) (i0 := i0) with ⟨t1, t⟩ | ⟨t1, t⟩
          · rw [t, if_pos y10]
            exact Or.inl ⟨⟨h1, g1, w, k1, by omega⟩, rfl⟩
          · rw [t, if_neg n00]
            exact Or.inr ⟨fun z => t1 (by have := z.2.2.2.2; omega), rfl⟩
        · rw [k, if_pos y10]
          exact Or.inr ⟨fun z => by have := z.2.2.2.1; omega, rfl⟩
      · rw [if_neg w]
        exact Or.inr ⟨fun z => w z.2.2.1, rfl⟩
    · rw [g, if_pos y00]
      exact Or.inr ⟨fun z => g1 z.2.1, rfl⟩
  · rw [h, if_pos y00]
    exact Or.inr ⟨fun z => h1 z.1, rfl⟩
theorem xrl : ((-1 ≤ u0.toInt ∧ u0.toInt < i6.toInt) ∧ Grd u1 u2 u3 i0 i9 ∧ F_x11_rules u0 u1 u2 u3 i0 i6 i9 i12 i13 i14 i15 i16 a1 a18 a19 a20 a21 a22 a23 a24 a25 a26 rtn rtc = XCR u0 u1 u2 u3 i9 a1 a18 a19 a20 a21 rtn rtc (F_x3_read u3 i9 i15 a1 a22 a23 a24 a25 a26)) ∨
    (¬ ((-1 ≤ u0.toInt ∧ u0.toInt < i6.toInt) ∧ Grd u1 u2 u3 i0 i9) ∧ F_x11_rules u0 u1 u2 u3 i0 i6 i9 i12 i13 i14 i15 i16 a1 a18 a19 a20 a21 a22 a23 a24 a25 a26 rtn rtc = ((-1 : Int32), i0, i9, i12, i13, i14, i15, i16, a18, a19, a20, a21, a22, a23, a24, a25, a26, rtn, rtc)) ∨ i6.toInt < 0 := by
  rw [E_x11_rules]
  by_cases n6 : i6.toInt < 0
  · exact Or.inr (Or.inr n6)
  · have J := @xrj u0 u1 u2 u3 i0 i9 i12 i13 i14 i15 i16 a1 a18 a19 a20 a21 a22 a23 a24 a25 a26 rtn rtc
    by_cases w : u0.toInt = -1
    · rw [if_pos w]
      rcases J with ⟨j1, j2⟩ | ⟨j1, j2⟩
      · exact Or.inl ⟨by omega, j1, j2⟩
      · exact Or.inr (Or.inl ⟨fun z => j1 z.2, j2⟩)
    · rw [if_neg w]
      rcases xcom (u := u0) (i6 := i6) with ⟨h1, h⟩ | ⟨h1, h⟩
      · rw [h, if_pos y10]
        rcases J with ⟨j1, j2⟩ | ⟨j1, j2⟩
        · exact Or.inl ⟨by omega, j1, j2⟩
        · exact Or.inr (Or.inl ⟨fun z => j1 z.2, j2⟩)
      · rw [h, if_neg n00]
        exact Or.inr (Or.inl ⟨fun z => h1 (by have := z.1; omega), rfl⟩)
end RUL
theorem mrl {u0 u1 u2 u3 i0 i6 i9 m9 m10 m11 m12 m13 m14 m15 m16 m17 : Int32} {b1 b15 b16 b17 b18 b19 b20 b21 b22 b23 b24 b25 b26 b27 : Nat → Int32} (h6 : 0 ≤ i6.toInt) (h9 : i9.toInt ≤ 20) :
    (((-1 ≤ u0.toInt ∧ u0.toInt < i6.toInt) ∧ Grd u1 u2 u3 i0 i9) ∧ F_m12_rules u0 u1 u2 u3 i0 i6 i9 m9 m10 m11 m12 m13 m14 m15 m16 m17 b1 b15 b16 b17 b18 b19 b20 b21 b22 b23 b24 b25 b26 b27 = f_m12_rules_j52 u0 u1 u2 u3 i9 b1 b15 b16 b17 b18 1460001 1 0 0 0 0 m14 m15 m16 m17 b19 b20 b21 b22 b23 b24 b25 b26 b27) ∨
    (¬ ((-1 ≤ u0.toInt ∧ u0.toInt < i6.toInt) ∧ Grd u1 u2 u3 i0 i9) ∧ F_m12_rules u0 u1 u2 u3 i0 i6 i9 m9 m10 m11 m12 m13 m14 m15 m16 m17 b1 b15 b16 b17 b18 b19 b20 b21 b22 b23 b24 b25 b26 b27 = ((-1 : Int32), i0, i9, m9, m10, m11, m12, m13, m14, m15, m16, m17, b15, b16, b17, b18, b19, b20, b21, b22, b23, b24, b25, b26, b27)) := by
  have hb : i6.toInt < 2147483648 := Int32.toInt_lt i6
  have c160 : (160 : Int32).toInt = 160 := by decide
  have cm1 : (-1 : Int32).toInt = -1 := by decide
  have e1 : (i6 - 1).toInt = i6.toInt - 1 := by have := toInt_sub (x := i6) rfl c1 (by omega) (by omega); omega
  rw [E_m12_rules]
  unfold Grd
  by_cases w : i9.toInt = 20
  · rw [if_pos w]
    exact Or.inr ⟨fun z => by have := z.2.2.2.2.1; omega, rfl⟩
  · rw [if_neg w]
    rcases mlie (u := u0) cm1 e1 with ⟨h1, h⟩ | ⟨h1, h⟩
    · rw [h, if_neg n10]
      rcases mday (u := u1) with ⟨g1, g⟩ | ⟨g1, g⟩
      · rw [g, if_neg n10]
        rcases mday (u := u2) with ⟨k1, k⟩ | ⟨k1, k⟩
        · rw [k, if_neg n10]
          by_cases w2 : u2.toInt < u1.toInt
          · rw [if_pos w2]
            exact Or.inr ⟨fun z => by have := z.2.2.2.1; omega, rfl⟩
          · rw [if_neg w2]
            rcases mlie (u := u3) c1 c160 with ⟨l1, l⟩ | ⟨l1, l⟩
            · rw [l, if_neg n10]
              by_cases w3 : u3.toInt ≤ i0.toInt
              · rw [if_pos w3]
                exact Or.inl ⟨⟨by omega, g1, k1, by omega, by omega, by omega⟩, rfl⟩
              · rw [if_neg w3]
                exact Or.inr ⟨fun z => w3 z.2.2.2.2.2.2.2, rfl⟩
            · rw [l, if_pos y00]
              exact Or.inr ⟨fun z => l1 ⟨z.2.2.2.2.2.1, z.2.2.2.2.2.2.1⟩, rfl⟩
        · rw [k, if_pos y00]
          exact Or.inr ⟨fun z => k1 z.2.2.1, rfl⟩
      · rw [g, if_pos y00]
        exact Or.inr ⟨fun z => g1 z.2.1, rfl⟩
    · rw [h, if_pos y00]
      exact Or.inr ⟨fun z => h1 (by have := z.1; omega), rfl⟩
theorem en_loop {u1 u2 i9 : Int32} {a1 a21 : Nat → Int32} {rtn : Nat → Nat} {rtc : Nat → Nat → Int32} {N : Nat} : ∀ (m f : Nat) (x : Int32) (k : Nat) (g : Nat → Int32), x.toInt = (k : Int) → u1.toInt = (k : Int) + m → k + m ≤ 200 → m < f →
    ∃ g' : Nat → Int32, f_x2_enact_j16 u1 u2 i9 a1 a21 rtn rtc N f x g = (i9 + 1 - 1, i9 + 1, upd a21 i9.toNatClampNeg u2, up9n rtn i9.toNatClampNeg (N + 1), up9c rtc i9.toNatClampNeg g') ∧ ∀ i, i < k + m → g' i = if i < k then g i else a1 i := by
  intro m
  induction m with
  | zero =>
    intro f x k g hx hu _ hf
    obtain ⟨f, rfl⟩ : ∃ w, f = w + 1 := ⟨f - 1, by omega⟩
    refine ⟨g, ?_, fun i hi => by rw [if_pos (by omega)]⟩
    rw [S_x2_enact_j16, if_pos (by omega)]
  | succ m ih =>
    intro f x k g hx hu hk hf
    obtain ⟨f, rfl⟩ : ∃ w, f = w + 1 := ⟨f - 1, by omega⟩
    have o1 := co1
    have hx1 := toInt_add hx o1 (by omega) (by omega)
    obtain ⟨g', e, h⟩ := ih f (x + Int32.ofInt 1) (k + 1) (upd g x.toNatClampNeg (a1 x.toNatClampNeg)) (by omega) (by omega) (by omega) (by omega)
    refine ⟨g', ?_, fun i hi => ?_⟩
    · rw [S_x2_enact_j16, if_neg (by omega)]; exact e
    · rw [h i (by omega), nc hx]
      unfold upd
      by_cases w : i < k
      · rw [if_pos (by omega), if_neg (by omega), if_pos w]
      · rw [if_neg w]
        by_cases w2 : i = k
        · rw [if_pos (by omega), if_pos w2, w2]
        · rw [if_neg (by omega)]
theorem LAW_same {i9 : Int32} {r : Nat} {a18 a19 a20 a21 a22 a23 a24 a25 b15 b16 b17 b18 b19 b20 b21 b22 c22 c23 c24 c25 d19 d20 d21 d22 : Nat → Int32} (hr : i9.toInt = (r : Int)) (h : LAW i9 a18 a19 a20 a21 a22 a23 a24 a25 b15 b16 b17 b18 b19 b20 b21 b22)
    (k22 : Sb (16 * r) a22 c22) (k23 : Sb (16 * r) a23 c23) (k24 : Sb (16 * r) a24 c24) (k25 : Sb (16 * r) a25 c25) (k19 : Sb (16 * r) b19 d19) (k20 : Sb (16 * r) b20 d20) (k21 : Sb (16 * r) b21 d21) (k2 : Sb (16 * r) b22 d22) :
    LAW i9 a18 a19 a20 a21 c22 c23 c24 c25 b15 b16 b17 b18 d19 d20 d21 d22 := by
  intro i hi
  obtain ⟨h1, h2, h3, h4, h5, h6⟩ := h i hi
  refine ⟨h1, h2, h3, h4, h5, fun c hc hc2 => ?_⟩
  have q := h6 c hc hc2
  have hc3 : c < 16 * r := by omega
  unfold CLR at q ⊢
  rw [k22 c hc3, k23 c hc3, k24 c hc3, k25 c hc3, k19 c hc3, k20 c hc3, k21 c hc3, k2 c hc3]
  exact q
theorem LAW_add {i9 j9 v0 v1 v2 k : Int32} {r : Nat} {a18 a19 a20 a21 a22 a23 a24 a25 b15 b16 b17 b18 b19 b20 b21 b22 : Nat → Int32} (hr : i9.toInt = (r : Int)) (hj : j9.toInt = (r : Int) + 1) (h : LAW i9 a18 a19 a20 a21 a22 a23 a24 a25 b15 b16 b17 b18 b19 b20 b21 b22) (hk : 1 ≤ k.toInt ∧ k.toInt ≤ 16)
    (hc : ∀ c, 16 * r ≤ c → (c : Int) < 16 * (r : Int) + k.toInt → CLR a22 a23 a24 a25 b19 b20 b21 b22 c) :
    LAW j9 (upd a18 r v0) (upd a19 r v1) (upd a20 r v2) (upd a21 r k) a22 a23 a24 a25 (upd b15 r v0) (upd b16 r v1) (upd b17 r v2) (upd b18 r k) b19 b20 b21 b22 := by
  intro i hi
  by_cases w : i = r
  · subst w
    rw [upd_s, upd_s, upd_s, upd_s, upd_s, upd_s, upd_s, upd_s]
    exact ⟨rfl, rfl, rfl, rfl, hk, hc⟩
  · have n : ∀ (f : Nat → Int32) (x : Int32), upd f r x i = f i := fun f x => by unfold upd; rw [if_neg w]
    rw [n, n, n, n, n, n, n, n]
    exact h i (by omega)

theorem RCC_same {i9 : Int32} {r : Nat} {i6 : Int32} {a18 a19 a20 a21 a22 a23 a24 a25 b15 b16 b17 b18 b19 b20 b21 b22 a26 b23 b24 b25 b26 c26 d23 d24 : Nat → Int32} {rtn : Nat → Nat} {rtc : Nat → Nat → Int32} {k : C3} (hr : i9.toInt = (r : Int)) (hL : LAW i9 a18 a19 a20 a21 a22 a23 a24 a25 b15 b16 b17 b18 b19 b20 b21 b22) (h : RCC i9 a21 a26 rtn rtc b23 b24 b25 b26) (k26 : Sb (16 * r) a26 c26) (k3 : Sb (16 * r) b23 d23) (k4 : Sb (16 * r) b24 d24) (kf : FRM i6 b25 b26 k) (h6 : i6.toInt = (r : Int)) :
    RCC i9 a21 c26 rtn rtc d23 d24 k.2.1 k.2.2 := by
  intro i hi
  obtain ⟨_, _, _, h4, h5, _⟩ := hL i hi
  obtain ⟨T, n, E, g1, g2, g3, g4, g5, g6⟩ := h i hi
  refine ⟨T, n, E, g1, g2, g3, g4, fun q x hx => ?_, fun c hc hc2 => ?_⟩
  · have hq := (List.getElem?_eq_some_iff.mp hx).1
    have e := kf (160 * i + q) (by omega)
    rw [e.1, e.2]
    exact g5 q x hx
  · have e4 : (a21 i).toInt = (b18 i).toInt := by rw [h4]
    have hc3 : c < 16 * r := by omega
    rw [k26 c hc3, k3 c hc3, k4 c hc3]
    exact g6 c hc hc2
theorem RCC_add {i9 j9 k : Int32} {r N : Nat} {a21 a26 b23 b24 b25 b26 g' : Nat → Int32} {rtn : Nat → Nat} {rtc : Nat → Nat → Int32} {T : Nat → Int} {n : Nat} {E : List IN} (hr : i9.toInt = (r : Int)) (hj : j9.toInt = (r : Int) + 1) (h : RCC i9 a21 a26 rtn rtc b23 b24 b25 b26) (hT : TXT T n) (hN : N = n) (hg : ∀ p, p < n → (g' p).toInt = T p) (hE : E.length ≤ 160) (hE2 : ∀ (q : Nat) (x : IN), E[q]? = some x → (b25 (160 * r + q)).toInt = x.1 ∧ (b26 (160 * r + q)).toInt = x.2)
    (hc : ∀ c, 16 * r ≤ c → (c : Int) < 16 * (r : Int) + k.toInt → CLE T E (a26 c) (b23 c) (b24 c)) :
    RCC j9 (upd a21 r k) a26 (up9n rtn r (N + 1)) (up9c rtc r g') b23 b24 b25 b26 := by
  intro i hi
  by_cases w : i = r
  · subst w
    refine ⟨T, n, E, hT, ?_, fun p hp => ?_, hE, hE2, ?_⟩
    · unfold up9n; rw [if_pos rfl, hN]
    · unfold up9c; rw [if_pos rfl]; exact hg p hp
    · rw [upd_s]; exact hc
  · obtain ⟨T', n', E', g1, g2, g3, g4, g5, g6⟩ := h i (by omega)
    refine ⟨T', n', E', g1, ?_, fun p hp => ?_, g4, g5, ?_⟩
    · unfold up9n; rw [if_neg w]; exact g2
    · unfold up9c; rw [if_neg w]; exact g3 p hp
    · have n0 : upd a21 r k i = a21 i := by unfold upd; rw [if_neg w]
      rw [n0]; exact g6
/-- a tape as a text -/
theorem txt_of {u3 : Int32} {a1 b1 : Nat → Int32} (hT : TPR a1 b1) (h : 1 ≤ u3.toInt ∧ u3.toInt ≤ 160) : ∃ (T : Nat → Int) (n : Nat), TXT T n ∧ TXX T n u3 a1 ∧ TXM T n u3 b1 := by
  refine ⟨fun p => if p < u3.toInt.toNat then (a1 p).toInt else 0, u3.toInt.toNat, ⟨by omega, fun p => ?_, fun p hp => ?_⟩, ⟨by omega, fun p hp => ?_⟩, ⟨by omega, fun p hp => ?_⟩⟩
  · obtain ⟨t1, t2⟩ := hT p
    show 0 ≤ (if p < u3.toInt.toNat then (a1 p).toInt else 0) ∧ (if p < u3.toInt.toNat then (a1 p).toInt else 0) ≤ 255
    split <;> omega
  · show (if p < u3.toInt.toNat then (a1 p).toInt else 0) = 0
    rw [if_neg (by omega)]
  · show _ = (if p < u3.toInt.toNat then (a1 p).toInt else 0)
    rw [if_pos hp]
  · show _ = (if p < u3.toInt.toNat then (a1 p).toInt else 0)
    rw [if_pos hp, TPR_and hT]
theorem XCR_of {T : Nat → Int} {n : Nat} {u0 u1 u2 u3 i6 i9 i15 : Int32} {r : Nat} {a1 a18 a19 a20 a21 a22 a23 a24 a25 a26 b15 b16 b17 b18 b19 b20 b21 b22 b23 b24 b25 b26 : Nat → Int32} {rtn : Nat → Nat} {rtc : Nat → Nat → Int32} {t : R11} {m : M25} (hT : TXT T n) (hx : TXX T n u3 a1) (h3 : 1 ≤ u3.toInt ∧ u3.toInt ≤ 160) (hr : i9.toInt = (r : Int)) (hr2 : r < 20)
    (hL : LAW i9 a18 a19 a20 a21 a22 a23 a24 a25 b15 b16 b17 b18 b19 b20 b21 b22) (hRC : RCC i9 a21 a26 rtn rtc b23 b24 b25 b26) (h : RU T r u0 u1 u2 u3 i9 b15 b16 b17 b18 a22 a23 a24 a25 a26 b19 b20 b21 b22 b23 b24 b25 b26 t m) : RLW (XCR u0 u1 u2 u3 i9 a1 a18 a19 a20 a21 rtn rtc t) m := by
  obtain ⟨y9, y11, y12, y13, y14, y15, y16, y17, d19, d20, d21, d22, d23, d24, d25, d26, d27, hm, h1, h2, hg, ⟨k22, k23, k24, k25, k19, k20, k21, k2⟩, k26, k3, k4, kf⟩ := h
  subst hm
  have e0 := c0
  have L := LAW_same hr hL k22 k23 k24 k25 k19 k20 k21 k2
  have RS := RCC_same (k := (y13, d25, d26)) hr hL hRC k26 k3 k4 kf hr
  obtain ⟨t1, t2, t3, t4, t5, t6, t7, t8, t9, t10, t11⟩ := t
  have h1 : t1.toInt = y11.toInt := h1
  have L : LAW i9 a18 a19 a20 a21 t7 t8 t9 t10 b15 b16 b17 b18 d19 d20 d21 d22 := L
  have RS : RCC i9 a21 t11 rtn rtc d23 d24 d25 d26 := RS
  rw [E_m12_rules_j85]
  unfold XCR
  dsimp only
  by_cases w : y11.toInt = 0
  · obtain ⟨⟨g1, g2, g3, g4⟩, E, g5, g6⟩ := hg w
    have g1 : t6 = y12 := eq_of_toInt g1
    subst g1
    have g4 : ∀ c, 16 * r ≤ c → (c : Int) < 16 * (r : Int) + t6.toInt → CLR t7 t8 t9 t10 d19 d20 d21 d22 c := g4
    have g6 : ∀ c, 16 * r ≤ c → (c : Int) < 16 * (r : Int) + t6.toInt → CLE T E (t11 c) (d23 c) (d24 c) := g6
    rw [if_pos (show t1.toInt = 0 by omega), if_pos (show y11.toInt ≥ 0 by omega)]
    rcases xfull (i9 := i9) with ⟨f1, ff⟩ | ⟨f1, _⟩
    · obtain ⟨g', eg, hg'⟩ := en_loop (u1 := u3) (u2 := t6) (i9 := i9) (a1 := a1) (a21 := a21) (rtn := rtn) (rtc := rtc) (N := u3.toNatClampNeg) n 161 0 0 z0 c0 (by have := hx.1; omega) (by have := hT.1; omega) (by have := hT.1; omega)
      have en : F_x2_enact u3 (F_x3_clausesRead t6) i9 a1 a21 rtn rtc = (i9 + 1 - 1, i9 + 1, upd a21 i9.toNatClampNeg t6, up9n rtn i9.toNatClampNeg (u3.toNatClampNeg + 1), up9c rtc i9.toNatClampNeg g') := by
        rw [E_x2_enact, ff, if_neg n00]
        exact eg
      have ed : F_x2_putDays u0 u1 u2 i9 a18 a19 a20 = (upd a18 i9.toNatClampNeg u0, upd a19 i9.toNatClampNeg u1, upd a20 i9.toNatClampNeg u2) := by
        rw [E_x2_putDays, ff, if_neg n00]
      have ej := toInt_add hr c1 (by omega) (by omega)
      have hrr : i9.toInt.toNat = r := by omega
      have RA := RCC_add (g' := g') (N := u3.toNatClampNeg) (k := t6) hr ej RS hT (nc hx.1) (fun p hp => by rw [hg' p (by omega), if_neg (by omega)]; exact hx.2 p hp) g5.2.1 (by have := g5.2.2.2.1; rw [hrr] at this; exact this) g6
      rw [en, ed, nc hr]
      exact ⟨⟨rfl, rfl, rfl, ⟨by show 0 ≤ (0 : Int32).toInt; omega, by show (0 : Int32).toInt ≤ 200; omega⟩, ⟨by show 0 ≤ (i9 + 1).toInt; omega, by show (i9 + 1).toInt ≤ 20; omega⟩, LAW_add hr ej L ⟨g2, g3⟩ g4⟩, RA⟩
    · omega
  · rw [if_neg (show ¬ t1.toInt = 0 by omega), if_neg (show ¬ y11.toInt ≥ 0 by omega)]
    exact ⟨⟨eq_of_toInt h1, rfl, rfl, ⟨by show 0 ≤ (0 : Int32).toInt; omega, by show (0 : Int32).toInt ≤ 200; omega⟩, ⟨by show 0 ≤ i9.toInt; omega, by show i9.toInt ≤ 20; omega⟩, L⟩, RS⟩
theorem R_rules {u0 u1 u2 u3 i0 i6 i9 i12 i13 i14 i15 i16 m9 m10 m11 m12 m13 m14 m15 m16 m17 : Int32} {a1 b1 a18 a19 a20 a21 a22 a23 a24 a25 a26 b15 b16 b17 b18 b19 b20 b21 b22 b23 b24 b25 b26 b27 : Nat → Int32} {rtn : Nat → Nat} {rtc : Nat → Nat → Int32} (hi : 0 ≤ i0.toInt ∧ i0.toInt ≤ 200) (h6 : 0 ≤ i6.toInt) (h9 : 0 ≤ i9.toInt ∧ i9.toInt ≤ 20) (hT : TPR a1 b1)
    (hL : LAW i9 a18 a19 a20 a21 a22 a23 a24 a25 b15 b16 b17 b18 b19 b20 b21 b22) (hRC : RCC i9 a21 a26 rtn rtc b23 b24 b25 b26) :
    RLW (F_x11_rules u0 u1 u2 u3 i0 i6 i9 i12 i13 i14 i15 i16 a1 a18 a19 a20 a21 a22 a23 a24 a25 a26 rtn rtc) (F_m12_rules u0 u1 u2 u3 i0 i6 i9 m9 m10 m11 m12 m13 m14 m15 m16 m17 b1 b15 b16 b17 b18 b19 b20 b21 b22 b23 b24 b25 b26 b27) := by
  rcases @mrl u0 u1 u2 u3 i0 i6 i9 m9 m10 m11 m12 m13 m14 m15 m16 m17 b1 b15 b16 b17 b18 b19 b20 b21 b22 b23 b24 b25 b26 b27 h6 h9.2 with ⟨m1, m2⟩ | ⟨m1, m2⟩
  · rcases @xrl u0 u1 u2 u3 i0 i6 i9 i12 i13 i14 i15 i16 a1 a18 a19 a20 a21 a22 a23 a24 a25 a26 rtn rtc with ⟨_, _, x2⟩ | ⟨x1, _⟩ | x1
    · rw [m2, x2]
      obtain ⟨_, _, _, _, g5, g6, g7, g8⟩ := m1
      obtain ⟨T, n, t1, t2, t3⟩ := txt_of hT ⟨g6, g7⟩
      obtain ⟨r, hr⟩ : ∃ r : Nat, i9.toInt = (r : Int) := ⟨i9.toInt.toNat, by omega⟩
      have hC0 : CD i9 b25 b26 [] ((0 : Int32), b25, b26) := ⟨c0, by decide, ⟨by omega, by omega⟩, (fun i x h => absurd h (by simp)), fun i _ => ⟨rfl, rfl⟩⟩
      have B := both (p0 := u0) (p1 := u1) (p2 := u2) (a15 := b15) (a16 := b16) (a17 := b17) (a18 := b18) (f22 := a22) (f23 := a23) (f24 := a24) (f25 := a25) (f26 := a26) (g19 := b19) (g20 := b20) (g21 := b21) (g22 := b22) (g23 := b23) (g24 := b24) (g25 := b25) (g26 := b26) t1 t2 t3 hr hr (by omega)
        18 1460001 0 0 [] 0 0 0 i15 0 0 0 0 0 m14 m15 m16 m17 a22 a23 a24 a25 a26 b19 b20 b21 b22 b23 b24 b25 b26 b27 c0 c0 c0 c0 c0 c0 (by omega) (by omega) (by omega) (by omega) (fun c h1 h2 => by omega) (fun c _ => rfl) (fun c _ => rfl) (fun c _ => rfl) (fun c _ => rfl) (fun c _ => rfl) (fun c _ => rfl) (fun c _ => rfl) (fun c _ => rfl) hC0 (Nat.le_refl _) (fun c h1 h2 => by omega) (fun c _ => rfl) (fun c _ => rfl) (fun c _ => rfl)
      exact XCR_of (i6 := i6) (i15 := i15) t1 t2 ⟨g6, g7⟩ hr (by omega) hL hRC B
    · exact absurd m1 x1
    · omega
  · rcases @xrl u0 u1 u2 u3 i0 i6 i9 i12 i13 i14 i15 i16 a1 a18 a19 a20 a21 a22 a23 a24 a25 a26 rtn rtc with ⟨x0, x1, _⟩ | ⟨_, x2⟩ | x1
    · exact absurd ⟨x0, x1⟩ m1
    · rw [m2, x2]
      exact ⟨⟨rfl, rfl, rfl, hi, h9, hL⟩, hRC⟩
    · omega
