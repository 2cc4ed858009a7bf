def spW (T : Nat → Int) (p : Nat) : Int × Nat := seq (spO T 39 p) (spW2 T)
def spT (T : Nat → Int) (p : Nat) : Int × Nat := if T p = 40 then spC T p else (0, p)
def kOK (c : Int) : Prop := c = 119 ∨ c = 115 ∨ c = 107 ∨ c = 118 ∨ c = 111
def spK (T : Nat → Int) (p : Nat) : Int × Nat :=
  if T p = 119 then seq (spW T (p + 1)) (spT T) else if T p = 115 then spT T (p + 1) else if T p = 107 then spR T (p + 1) else if T p = 118 then spH T (p + 1) else spO T 99999 (p + 1)
def dS (T : Nat → Int) (p : Nat) : Int := if T p = 119 then (spN T 39 (p + 1)).2.2 else if T p = 118 then T (p + 1) - 48 else 0
def dG (T : Nat → Int) (p : Nat) : Int := T ((spN T 39 (p + 1)).2.1 + 1)
def dF (T : Nat → Int) (p : Nat) : Int := if T p = 119 then (if dG T p = 42 then 4 else dG T p - 48) else 0
def dV (T : Nat → Int) (p : Nat) : Int := if T p = 119 then (spN T 79 ((spN T 39 (p + 1)).2.1 + 3)).2.2 else if T p = 107 then 16 * (T (p + 1) - 48) + 4 * (T (p + 2) - 48) + (T (p + 3) - 48) else if T p = 118 then (spN T 100 (p + 3)).2.2 else if T p = 111 then (spN T 99999 (p + 1)).2.2 else 0
section OKS
variable {T : Nat → Int} {n p : Nat}
theorem spO_ok {most : Int} (hT : TXT T n) (hp : p ≤ n) : OKat n p (spO T most p) := by
  rcases spN_bad (most := most) hT hp with h | h
  · have := spN_at hT hp h
    exact Or.inl ⟨h, this.1, this.2.1⟩
  · exact Or.inr h
end OKS
