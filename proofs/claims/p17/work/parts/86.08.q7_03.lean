section OKS
variable {T : Nat → Int} {n p : Nat}
theorem spW2_ok (hT : TXT T n) (hp : p ≤ n) : OKat n p (spW2 T p) := by
  have h160 := hT.1
  unfold spW2
  by_cases h1 : T p ≠ 46
  · rw [if_pos h1]; exact OK_bad (by omega) h160 hp
  · have a1 := T_in hT (p := p) (by omega)
    rw [if_neg h1]
    by_cases h2 : T (p + 1) = 42 ∨ (48 ≤ T (p + 1) ∧ T (p + 1) ≤ 51)
    · have a2 := T_in hT (p := p + 1) (by omega)
      rw [if_neg (fun q => q h2)]
      by_cases h3 : T (p + 2) ≠ 61
      · rw [if_pos h3]; exact OK_bad (by omega) h160 (by omega)
      · have a3 := T_in hT (p := p + 2) (by omega)
        rw [if_neg h3]; exact OK_le (spO_ok hT (by omega)) (by omega)
    · rw [if_pos h2]; exact OK_bad (by omega) h160 (by omega)
theorem seq_ok {r : Int × Nat} {f : Nat → Int × Nat} (h : OKat n p r) (hf : ∀ q, p < q → q ≤ n → OKat n p (f q)) : OKat n p (seq r f) := by
  rcases h with ⟨h1, h2, h3⟩ | h
  · rw [seq_y h1]; exact hf _ h2 h3
  · rw [seq_n h.1]; exact Or.inr h
theorem spW_ok (hT : TXT T n) (hp : p ≤ n) : OKat n p (spW T p) := seq_ok (spO_ok hT hp) (fun q h1 h2 => OK_le (spW2_ok hT h2) (by omega))
theorem spT_at (hT : TXT T n) (hp : p ≤ n) : ((spT T p).1 = 0 ∧ p ≤ (spT T p).2 ∧ (spT T p).2 ≤ n) ∨ ((spT T p).1 < 0 ∧ -10000 < (spT T p).1) := by
  unfold spT
  by_cases h : T p = 40
  · have a1 := T_in hT (p := p) (by omega)
    rw [if_pos h]
    rcases spC_ok hT a1 with ⟨h1, h2, h3⟩ | h
    · exact Or.inl ⟨h1, by omega, h3⟩
    · exact Or.inr h
  · rw [if_neg h]; exact Or.inl ⟨rfl, Nat.le_refl _, hp⟩
end OKS
