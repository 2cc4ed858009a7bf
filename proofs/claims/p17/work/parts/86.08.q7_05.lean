theorem x_putC {i9 u0 k st : Int32} {a22 a26 : Nat → Int32} {r j : Nat} (hi : i9.toInt = (r : Int)) (hj : u0.toInt = (j : Int)) (hr : r < 20) (hj2 : j < 16) : F_x2_putClause u0 k st i9 a22 a26 = (upd a22 (16 * r + j) k, upd a26 (16 * r + j) st) := by
  rw [E_x2_putClause, nfull (by omega), if_neg n00, if_neg (by omega), if_pos (by omega), cl_idx hi hj hr hj2]
theorem x_putM {i9 u0 s f v : Int32} {a23 a24 a25 : Nat → Int32} {r j : Nat} (hi : i9.toInt = (r : Int)) (hj : u0.toInt = (j : Int)) (hr : r < 20) (hj2 : j < 16) : F_x2_putMeaning u0 s f v i9 a23 a24 a25 = (upd a23 (16 * r + j) s, upd a24 (16 * r + j) f, upd a25 (16 * r + j) v) := by
  rw [E_x2_putMeaning, nfull (by omega), if_neg n00, if_neg (by omega), if_pos (by omega), cl_idx hi hj hr hj2]
def X7 (r : Int × Nat) (a b : Int32) (c : Nat) (f3 f4 f5 : Nat → Int32) (s f v : Int) (t : R7) : Prop :=
  XR r a b (t.1, t.2.1, t.2.2.1, t.2.2.2.1) ∧ Sm c f3 t.2.2.2.2.1 ∧ Sm c f4 t.2.2.2.2.2.1 ∧ Sm c f5 t.2.2.2.2.2.2 ∧ (r.1 = 0 → (t.2.2.2.2.1 c).toInt = s ∧ (t.2.2.2.2.2.1 c).toInt = f ∧ (t.2.2.2.2.2.2 c).toInt = v)
section XCL
variable {T : Nat → Int} {n p r j : Nat} {u0 i9 i12 y a b : Int32} {a1 a23 a24 a25 : Nat → Int32}
theorem X7_bad {q : Nat} {s f v : Int} {g : Int32} {c : Int} (hy : y.toInt = (q : Int)) (hq : q ≤ 160) (hf : g.toInt * 1000 = c) (h1 : 1 ≤ g.toInt) (h2 : g.toInt ≤ 6) {k : Nat} : X7 (-c - (q : Int), q) a b k a23 a24 a25 s f v ((0 : Int32), y, g, y, a23, a24, a25) :=
  ⟨XR_bad hy hq hf h1 h2, Sm_r, Sm_r, Sm_r, fun h => absurd h (by show ¬ -c - (q : Int) = 0; omega)⟩
end XCL
