def updA (ia : Nat → Nat → Int32) (k : Nat) (f : Nat → Int32) : Nat → Nat → Int32 := fun j => if j = k then f else ia j
def IMa (lo hi : Nat → Int) (ia : Nat → Nat → Int32) : Prop := ∀ k j, lo k ≤ (ia k j).toInt ∧ (ia k j).toInt ≤ hi k
theorem IMa.put {lo hi : Nat → Int} {ia : Nat → Nat → Int32} (h : IMa lo hi ia) {k i : Nat} {x : Int32} (h1 : lo k ≤ x.toInt ∧ x.toInt ≤ hi k) : IMa lo hi (updA ia k (upd (ia k) i x)) := by
  intro k2 j
  unfold updA
  by_cases e : k2 = k
  · subst e
    rw [if_pos rfl]
    unfold upd
    split
    · exact h1
    · exact h k2 j
  · rw [if_neg e]; exact h k2 j
theorem i32_all (x : Int32) : (-2147483648 : Int) ≤ x.toInt ∧ x.toInt ≤ 2147483647 := ⟨Int32.le_toInt x, Int32.toInt_le x⟩
theorem fits_z {v : Int32} (h : v.toInt = 0 ∨ v.toInt = 1) : fits .boolean (.int v) = true := by
  rcases h with h | h
  · rw [show v = 0 from eq_of_toInt h]; rfl
  · rw [show v = 1 from eq_of_toInt h]; rfl
theorem nar_z (x : Int32) : 0 ≤ (vp_nar .boolean x).toInt ∧ (vp_nar .boolean x).toInt ≤ 1 := by
  rw [show vp_nar .boolean x = x &&& 1 from rfl]
  exact and_rng (c := 1) rfl (by decide)
