/-! clauses: what they are read to, and their data, on both sides -/
def Sm (c : Nat) (f g : Nat → Int32) : Prop := ∀ j, j ≠ c → g j = f j
theorem Sm_r {c : Nat} {f : Nat → Int32} : Sm c f f := fun _ _ => rfl
theorem Sm_u {c : Nat} {f : Nat → Int32} {x : Int32} : Sm c f (upd f c x) := fun j h => by unfold upd; rw [if_neg h]
theorem Sm_t {c : Nat} {f g h : Nat → Int32} (a : Sm c f g) (b : Sm c g h) : Sm c f h := fun j hj => (b j hj).trans (a j hj)
theorem upd_s {f : Nat → Int32} {c : Nat} {x : Int32} : upd f c x c = x := by unfold upd; rw [if_pos rfl]
def spR (T : Nat → Int) (p : Nat) : Int × Nat :=
  if ¬ (48 ≤ T p ∧ T p ≤ 50) then (-1000 - (p : Int), p) else if ¬ (48 ≤ T (p + 1) ∧ T (p + 1) ≤ 50) then (-1000 - ((p + 1 : Nat) : Int), p + 1) else if T (p + 1) = T p then (-6000 - ((p + 1 : Nat) : Int), p + 1)
  else if ¬ (48 ≤ T (p + 2) ∧ T (p + 2) ≤ 50) then (-1000 - ((p + 2 : Nat) : Int), p + 2) else if T (p + 2) = T p ∨ T (p + 2) = T (p + 1) then (-6000 - ((p + 2 : Nat) : Int), p + 2) else (0, p + 3)
def spO (T : Nat → Int) (most : Int) (p : Nat) : Int × Nat := ((spN T most p).1, (spN T most p).2.1)
def spH (T : Nat → Int) (p : Nat) : Int × Nat :=
  if ¬ (48 ≤ T p ∧ T p ≤ 49) then (-1000 - (p : Int), p) else if T (p + 1) ≠ 46 then (-1000 - ((p + 1 : Nat) : Int), p + 1) else spO T 100 (p + 2)
def spW2 (T : Nat → Int) (q : Nat) : Int × Nat :=
  if T q ≠ 46 then (-1000 - (q : Int), q) else if ¬ (T (q + 1) = 42 ∨ (48 ≤ T (q + 1) ∧ T (q + 1) ≤ 51)) then (-1000 - ((q + 1 : Nat) : Int), q + 1)
  else if T (q + 2) ≠ 61 then (-1000 - ((q + 2 : Nat) : Int), q + 2) else spO T 79 (q + 3)
