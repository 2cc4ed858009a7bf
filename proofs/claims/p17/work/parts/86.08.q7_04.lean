section OKS
variable {T : Nat → Int} {n p : Nat}
theorem spK_ok (hT : TXT T n) (hp : p < n) : OKat n p (spK T p) := by
  have tl : ∀ q, p < q → q ≤ n → OKat n p (spT T q) := fun q h1 h2 => by
    rcases spT_at hT h2 with ⟨a, b, c⟩ | h
    · exact Or.inl ⟨a, by omega, c⟩
    · exact Or.inr h
  unfold spK
  split
  · exact seq_ok (OK_le (spW_ok hT (by omega)) (Nat.le_succ p)) tl
  · split
    · exact tl _ (Nat.lt_succ_self p) hp
    · split
      · exact OK_le (spR_ok hT (by omega)) (Nat.le_succ p)
      · split
        · exact OK_le (spH_ok hT (by omega)) (Nat.le_succ p)
        · exact OK_le (spO_ok hT (by omega)) (Nat.le_succ p)
end OKS
/-! the class -/
abbrev R7 := Int32 × Int32 × Int32 × Int32 × (Nat → Int32) × (Nat → Int32) × (Nat → Int32)
theorem XR_pl {c : Int} {q q2 : Nat} {a b : Int32} {t : R4} (h : XR (c, q) a b t) (hc : c < 0) : XR (c, q2) a b t := by
  rcases h with h | h
  · exact absurd h.1 (by show ¬ c = 0; omega)
  · exact Or.inr h
theorem nfull {i9 : Int32} (h : i9.toInt < 20) : F_x2_isFull i9 = 0 := by
  unfold F_x2_isFull; rw [if_pos h]; rfl
theorem cl_idx {i9 u0 : Int32} {r j : Nat} (hi : i9.toInt = (r : Int)) (hj : u0.toInt = (j : Int)) (hr : r < 20) (hj2 : j < 16) : (F_x2_clauseOf i9 u0).toNatClampNeg = 16 * r + j := by
  have c16 : (16 : Int32).toInt = 16 := by decide
  have m : (i9 * (16 : Int32)).toInt = (r : Int) * 16 := toInt_mul hi c16 rfl (by omega) (by omega)
  have m2 := toInt_add m hj (by omega) (by omega)
  exact nc (p := 16 * r + j) (by show (i9 * 16 + u0).toInt = _; omega)
