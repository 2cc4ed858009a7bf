/-! renderings on both sides: what is related; places of two numbers -/
def RNC (i10 : Int32) (og : Nat → Nat → Int32) (ogn : Nat → Nat → Nat) (ogc : Nat → Nat → Nat → Int32) (b33 b34 b36 b37 b38 b39 b40 b41 b42 : Nat → Int32) : Prop :=
  ∀ r : Nat, (r : Int) < i10.toInt → (og 0 r = b33 r ∧ og 1 r = b34 r ∧ og 2 r = b37 r ∧ og 6 r = b36 r) ∧ ((b38 r).toInt = (ogn 3 r : Int) ∧ ogn 3 r ≤ 8 ∧ ∀ i, i < ogn 3 r → ogc 3 r i = b39 (8 * r + i)) ∧ ((b40 r).toInt = (ogn 4 r : Int) ∧ 1 ≤ ogn 4 r ∧ ogn 4 r ≤ 12 ∧ ∀ i, i < ogn 4 r → ogc 4 r i = b41 (12 * r + i) ∧ ogc 5 r i = b42 (12 * r + i) ∧ (0 ≤ (b41 (12 * r + i)).toInt ∧ (b41 (12 * r + i)).toInt ≤ 79) ∧ (0 ≤ (b42 (12 * r + i)).toInt ∧ (b42 (12 * r + i)).toInt ≤ 8))
def RNS (i3 i10 : Int32) (og : Nat → Nat → Int32) (b34 b35 b43 : Nat → Int32) : Prop :=
  (∀ r : Nat, (r : Int) < i10.toInt → og 7 r = b35 r ∧ og 8 r = b43 r ∧ (0 ≤ (b35 r).toInt ∧ (b35 r).toInt ≤ 4) ∧ (0 ≤ (b34 r).toInt ∧ (b34 r).toInt < i3.toInt) ∧ ((b35 r).toInt ≤ 1 → (b43 r).toInt = -1)) ∧ ∀ r : Nat, i10.toInt ≤ (r : Int) → r < 200 → (b35 r).toInt = 0
def KEP (i10 : Int32) (og : Nat → Nat → Int32) (b44 b45 b46 : Nat → Int32) : Prop :=
  ∀ k : Nat, (k : Int) < 2 * i10.toInt → ((b46 k).toInt = -1 ∧ (og 11 k).toInt = -1) ∨ ((b46 k).toInt ≠ -1 ∧ og 11 k = b44 k ∧ og 12 k = b45 k ∧ og 13 k = b46 k)
def VOT (i10 : Int32) (og : Nat → Nat → Int32) (b49 b50 : Nat → Int32) : Prop :=
  (∀ k : Nat, (k : Int) < 2 * i10.toInt → og 9 k = b49 k ∧ og 10 k = b50 k) ∧ ∀ k : Nat, 2 * i10.toInt ≤ (k : Int) → k < 400 → b49 k = 0 ∧ b50 k = 0
def FXD (i10 : Int32) (a29 b34 b35 : Nat → Int32) : Prop :=
  ∀ v : Nat, v < 60 → ((a29 v).toInt = -1 ∧ ∀ r : Nat, (r : Int) < i10.toInt → (b34 r).toInt = (v : Int) → (b35 r).toInt ≠ 2) ∨ (∃ r : Nat, (r : Int) < i10.toInt ∧ (a29 v).toInt = (r : Int) ∧ (b34 r).toInt = (v : Int) ∧ (b35 r).toInt = 2 ∧ ∀ q : Nat, (q : Int) < i10.toInt → (b34 q).toInt = (v : Int) → (b35 q).toInt = 2 → q = r)
def TEL (i10 i11 j18 : Int32) (a30 a31 a32 b51 b52 b53 : Nat → Int32) : Prop :=
  i11 = j18 ∧ (0 ≤ i11.toInt ∧ i11.toInt ≤ 1024) ∧ ∀ t : Nat, (t : Int) < i11.toInt → a30 t = b51 t ∧ a31 t = b53 t ∧ a32 t = b52 t ∧ ((b52 t).toInt = -1 ∨ (0 ≤ (b52 t).toInt ∧ (b52 t).toInt < i10.toInt))
theorem sc2 : (2 : Int32).toInt = 2 := by decide
theorem sc7 : (7 : Int32).toInt = 7 := by decide
theorem sc8 : (8 : Int32).toInt = 8 := by decide
theorem sc12 : (12 : Int32).toInt = 12 := by decide
theorem sc19 : (19 : Int32).toInt = 19 := by decide
theorem sc20 : (20 : Int32).toInt = 20 := by decide
theorem scm1 : (Int32.ofInt (-1)).toInt = -1 := by decide
theorem sm1 : (-1 : Int32).toInt = -1 := by decide
theorem xat {u i10 : Int32} : (¬ (0 ≤ u.toInt ∧ u.toInt < i10.toInt) ∧ F_x8_at u i10 = 0) ∨ (∃ r : Nat, u.toInt = (r : Int) ∧ (r : Int) < i10.toInt ∧ F_x8_at u i10 = r + 1) := by
  rw [E_x8_at]
  by_cases h : u.toInt < 0
  · rw [if_pos h]; exact Or.inl ⟨by omega, rfl⟩
  · rw [if_neg h]
    by_cases g : u.toInt ≥ i10.toInt
    · rw [if_pos g]; exact Or.inl ⟨by omega, rfl⟩
    · rw [if_neg g]; exact Or.inr ⟨u.toInt.toNat, by omega, by omega, rfl⟩
theorem mren {u i7 : Int32} (h0 : 0 ≤ i7.toInt) : ((0 ≤ u.toInt ∧ u.toInt < i7.toInt) ∧ F_m12_isRendering u i7 = 1) ∨ (¬ (0 ≤ u.toInt ∧ u.toInt < i7.toInt) ∧ F_m12_isRendering u i7 = 0) := by
  have h1 := (i32_all i7).2
  have e1 : (i7 - 1).toInt = i7.toInt - 1 := by have := toInt_sub (x := i7) rfl c1 (by omega) (by omega); omega
  have e2 : F_m12_isRendering u i7 = F_m12_lies u 0 (i7 - 1) := rfl
  rw [e2]
  rcases mlie (u := u) c0 e1 with ⟨g1, g⟩ | ⟨g1, g⟩
  · exact Or.inl ⟨by omega, g⟩
  · exact Or.inr ⟨by omega, g⟩
theorem ix12 {x y : Int32} {r i : Nat} (hx : x.toInt = (r : Int)) (hy : y.toInt = (i : Int)) (hr : r < 200) (hi : i < 100000) : (((12 : Int32) * x) + y).toNatClampNeg = 12 * r + i := by
  have e1 := toInt_mul sc12 hx rfl (by omega) (by omega)
  have e2 := toInt_add e1 hy (by omega) (by omega)
  exact nc (by omega)
theorem ix8 {x y : Int32} {r i : Nat} (hx : x.toInt = (r : Int)) (hy : y.toInt = (i : Int)) (hr : r < 200) (hi : i < 100000) : (((8 : Int32) * x) + y).toNatClampNeg = 8 * r + i := by
  have e1 := toInt_mul sc8 hx rfl (by omega) (by omega)
  have e2 := toInt_add e1 hy (by omega) (by omega)
  exact nc (by omega)
theorem ix2 {x y : Int32} {r i : Nat} (hx : x.toInt = (r : Int)) (hy : y.toInt = (i : Int)) (hr : r < 200) (hi : i < 100000) : (((2 : Int32) * x) + y).toInt = ((2 * r + i : Nat) : Int) ∧ (((2 : Int32) * x) + y).toNatClampNeg = 2 * r + i := by
  have e1 := toInt_mul sc2 hx rfl (by omega) (by omega)
  have e2 := toInt_add e1 hy (by omega) (by omega)
  exact ⟨by omega, nc (by omega)⟩
theorem ix20 {x : Int32} {r : Nat} (hx : x.toInt = (r : Int)) (hr : r < 200) : ((2 : Int32) * x).toInt = ((2 * r : Nat) : Int) ∧ ((2 : Int32) * x).toNatClampNeg = 2 * r := by
  have e1 := toInt_mul sc2 hx rfl (by omega) (by omega)
  exact ⟨by omega, nc (by omega)⟩
theorem of_n {n : Nat} {b : Int32} (h : b.toInt = (n : Int)) (hn : n ≤ 200) : Int32.ofNat n = b := eq_of_toInt (by rw [h]; exact nI_toInt (by omega))
