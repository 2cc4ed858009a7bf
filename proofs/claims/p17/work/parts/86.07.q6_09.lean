/-- the same, read by the class -/
theorem x_condition {T : Nat → Int} {n p : Nat} {i12 y a b : Int32} {a1 : Nat → Int32} (hT : TXT T n) (hx : TXX T n i12 a1) (hy : y.toInt = ((p + 1 : Nat) : Int)) (hp : p < n) :
    XR (sp T 1000 3 1 (p + 1)) a b (G_x3_readCondition 6 1 i12 y a b a1) :=
  (x_all hT hx 1000 1000 (Nat.le_refl _) 1 6 rfl (Nat.le_refl _) (by omega)).2.2.2 (p + 1) 1 y a b c1 (by omega) hy (by have := hT.1; omega)

