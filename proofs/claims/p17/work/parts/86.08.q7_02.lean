section OKS
variable {T : Nat → Int} {n p : Nat}
theorem spR_ok (hT : TXT T n) (hp : p ≤ n) : OKat n p (spR T p) := by
  have h160 := hT.1
  unfold spR
  by_cases h1 : 48 ≤ T p ∧ T p ≤ 50
  · have a1 := T_in hT (p := p) (by omega)
    rw [if_neg (fun q => q h1)]
    by_cases h2 : 48 ≤ T (p + 1) ∧ T (p + 1) ≤ 50
    · have a2 := T_in hT (p := p + 1) (by omega)
      rw [if_neg (fun q => q h2)]
      by_cases h3 : T (p + 1) = T p
      · rw [if_pos h3]; exact Or.inr ⟨by show -6000 - ((p + 1 : Nat) : Int) < 0; omega, by show -10000 < -6000 - ((p + 1 : Nat) : Int); omega⟩
      · rw [if_neg h3]
        by_cases h4 : 48 ≤ T (p + 2) ∧ T (p + 2) ≤ 50
        · have a3 := T_in hT (p := p + 2) (by omega)
          rw [if_neg (fun q => q h4)]
          by_cases h5 : T (p + 2) = T p ∨ T (p + 2) = T (p + 1)
          · rw [if_pos h5]; exact Or.inr ⟨by show -6000 - ((p + 2 : Nat) : Int) < 0; omega, by show -10000 < -6000 - ((p + 2 : Nat) : Int); omega⟩
          · rw [if_neg h5]; exact Or.inl ⟨rfl, by show p < p + 3; omega, by show p + 3 ≤ n; omega⟩
        · rw [if_pos h4]; exact OK_bad (by omega) h160 (by omega)
    · rw [if_pos h2]; exact OK_bad (by omega) h160 (by omega)
  · rw [if_pos h1]; exact OK_bad (by omega) h160 hp
theorem spH_ok (hT : TXT T n) (hp : p ≤ n) : OKat n p (spH T p) := by
  have h160 := hT.1
  unfold spH
  by_cases h1 : 48 ≤ T p ∧ T p ≤ 49
  · have a1 := T_in hT (p := p) (by omega)
    rw [if_neg (fun q => q h1)]
    by_cases h2 : T (p + 1) ≠ 46
    · rw [if_pos h2]; exact OK_bad (by omega) h160 (by omega)
    · have a2 := T_in hT (p := p + 1) (by omega)
      rw [if_neg h2]; exact OK_le (spO_ok hT (by omega)) (by omega)
  · rw [if_pos h1]; exact OK_bad (by omega) h160 hp
end OKS
