def TW (a : Nat → Int32) (w t n : Int) : Prop := ∀ j : Nat, (j : Int) < n → ((a (2 * j)) &&& 255).toInt < w ∧ (((a (2 * j + 1)) &&& 255).toInt = 8 ∨ ((a (2 * j + 1)) &&& 255).toInt < t)
theorem TW_zero {a : Nat → Int32} {w t n : Int} (h : n ≤ 0) : TW a w t n := fun j hj => by omega
theorem TW_next {a : Nat → Int32} {w t n n' : Int} {x y i j c d : Int32} (h : TW a w t n) (h0 : 0 ≤ n) (hn : n' = n + 1) (hx : x = a i.toNatClampNeg) (hi : i.toInt = 2 * n) (hy : y = a j.toNatClampNeg) (hj : j.toInt = 2 * n + 1) (hc : c = 255) (hd : d = 255) (h1 : (x &&& c).toInt < w) (h2 : (y &&& d).toInt = 8 ∨ (y &&& d).toInt < t) : TW a w t n' := by
  intro k hk
  by_cases e : (k : Int) < n
  · exact h k e
  · have e1 : (k : Int) = n := by omega
    have e2 : i.toNatClampNeg = 2 * k := by show i.toInt.toNat = _; omega
    have e3 : j.toNatClampNeg = 2 * k + 1 := by show j.toInt.toNat = _; omega
    rw [e2] at hx
    rw [e3] at hy
    rw [← hx, ← hy]
    subst hc; subst hd
    exact ⟨h1, h2⟩
theorem TW_w {a : Nat → Int32} {w t n k : Int} {x i c : Int32} (h : TW a w t n) (h0 : 0 ≤ k) (hk : k < n) (hx : x = a i.toNatClampNeg) (hi : i.toInt = 2 * k) (hc : c = 255) : 0 ≤ (x &&& c).toInt ∧ (x &&& c).toInt < w := by
  have e2 : i.toNatClampNeg = 2 * k.toNat := by show i.toInt.toNat = _; omega
  rw [e2] at hx
  subst hc
  rw [hx]
  exact ⟨(and_rng (c := 255) rfl (by decide)).1, (h k.toNat (by omega)).1⟩
theorem TW_t {a : Nat → Int32} {w t n k : Int} {x i c : Int32} (h : TW a w t n) (h0 : 0 ≤ k) (hk : k < n) (ht : t ≤ 8) (hx : x = a i.toNatClampNeg) (hi : i.toInt = 2 * k + 1) (hc : c = 255) : 0 ≤ (x &&& c).toInt ∧ (x &&& c).toInt ≤ 8 := by
  have e2 : i.toNatClampNeg = 2 * k.toNat + 1 := by show i.toInt.toNat = _; omega
  rw [e2] at hx
  subst hc
  rw [hx]
  have := (h k.toNat (by omega)).2
  exact ⟨(and_rng (c := 255) rfl (by decide)).1, by omega⟩
