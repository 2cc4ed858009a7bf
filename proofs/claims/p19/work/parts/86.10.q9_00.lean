/-! the reference's clauses -/
abbrev M5 := Int32 × Int32 × (Nat → Int32) × (Nat → Int32) × (Nat → Int32)
theorem c2' : (2 : Int32).toInt = 2 := by decide
theorem c6' : (6 : Int32).toInt = 6 := by decide
def Y5 (r : Int × Nat) (i11 : Int32) (c : Nat) (f0 f1 f2 : Nat → Int32) (D : (Nat → Int32) → (Nat → Int32) → (Nat → Int32) → Prop) (t : M5) : Prop :=
  ((r.1 < 0 ∧ t.2.1.toInt = r.1) ∨ (r.1 = 0 ∧ t.1.toInt = (r.2 : Int) ∧ t.2.1 = i11 ∧ D t.2.2.1 t.2.2.2.1 t.2.2.2.2)) ∧ Sm c f0 t.2.2.1 ∧ Sm c f1 t.2.2.2.1 ∧ Sm c f2 t.2.2.2.2
section MCL
variable {T : Nat → Int} {n p c : Nat} {p0 i9 i10 i11 : Int32} {a1 a20 a21 a22 : Nat → Int32}
theorem m_rank (hT : TXT T n) (hx : TXM T n i10 a1) (hg : i11.toInt = 0) (h0 : p0.toInt = (c : Int)) (hy : i9.toInt = (p : Int)) (hp : p ≤ n) :
    Y5 (spR T p) i11 c a20 a21 a22 (fun b0 b1 b2 => (b0 c).toInt = T p - 48 ∧ (b1 c).toInt = T (p + 1) - 48 ∧ (b2 c).toInt = T (p + 2) - 48) (F_m12_readsRank p0 i9 i10 i11 a1 a20 a21 a22) := by
  have h160 := hT.1
  have hy1 := suc_of hy (by omega)
  have hy2 : (i9 + 1 + 1).toInt = ((p + 2 : Nat) : Int) := suc_of hy1 (by omega)
  have hy3 : (i9 + 1 + 1 + 1).toInt = ((p + 3 : Nat) : Int) := suc_of hy2 (by omega)
  have q0 := hr_of hT hx hy
  have q1 := hr_of hT hx hy1
  have q2 := hr_of hT hx hy2
  have b0 := hT.2.1 p
  have b1 := hT.2.1 (p + 1)
  have b2 := hT.2.1 (p + 2)
  have z0 := toInt_sub q0 c48 (by omega) (by omega)
  have z1 := toInt_sub q1 c48 (by omega) (by omega)
  have z2 := toInt_sub q2 c48 (by omega) (by omega)
  have e1 := c1
  have e2 := c2'
  have e6 := c6'
  have e0 := c0
  have f10 := fl0 (f := 1) (a := i9) hg (by omega) (by omega)
  have f11 := fl0 (f := 1) (a := i9 + 1) hg (by omega) (by omega)
  have f12 := fl0 (f := 1) (a := i9 + 1 + 1) hg (by omega) (by omega)
  have f61 := fl0 (f := 6) (a := i9 + 1) hg (by omega) (by omega)
  have f62 := fl0 (f := 6) (a := i9 + 1 + 1) hg (by omega) (by omega)
  have l0 := lie (u := F_m12_here i9 i10 a1 - 48) (a := 0) (b := 2)
  have l1 := lie (u := F_m12_here (i9 + 1) i10 a1 - 48) (a := 0) (b := 2)
  have l2 := lie (u := F_m12_here (i9 + 1 + 1) i10 a1 - 48) (a := 0) (b := 2)
  rw [E_m12_readsRank, nc h0]
  generalize F_m12_here i9 i10 a1 - 48 = w0 at z0 l0 ⊢
  generalize F_m12_here (i9 + 1) i10 a1 - 48 = w1 at z1 l1 ⊢
  generalize F_m12_here (i9 + 1 + 1) i10 a1 - 48 = w2 at z2 l2 ⊢
  clear q0 q1 q2
  generalize F_m12_fails 1 i9 i11 = g10 at f10 ⊢
  generalize F_m12_fails 1 (i9 + 1) i11 = g11 at f11 ⊢
  generalize F_m12_fails 1 (i9 + 1 + 1) i11 = g12 at f12 ⊢
  generalize F_m12_fails 6 (i9 + 1) i11 = g61 at f61 ⊢
  generalize F_m12_fails 6 (i9 + 1 + 1) i11 = g62 at f62 ⊢
  generalize i9 + 1 + 1 + 1 = x3 at hy3 ⊢
  generalize i9 + 1 + 1 = x2 at hy2 f12 f62 ⊢
  generalize i9 + 1 = x1 at hy1 f11 f61 ⊢
  unfold spR
  by_cases h1 : 48 ≤ T p ∧ T p ≤ 50
  · have l0 : F_m12_lies w0 0 2 = 1 := by
      rcases l0 with l | l
      · exact l.2.2
      · omega
    rw [if_neg (fun z => z h1), l0, if_pos y10]
    by_cases h2 : 48 ≤ T (p + 1) ∧ T (p + 1) ≤ 50
    · have l1 : F_m12_lies w1 0 2 = 1 := by
        rcases l1 with l | l
        · exact l.2.2
        · omega
      rw [if_neg (fun z => z h2), l1, if_pos y10, if_pos y10, if_pos y10]
      by_cases h3 : 48 ≤ T (p + 2) ∧ T (p + 2) ≤ 50
      · have l2 : F_m12_lies w2 0 2 = 1 := by
          rcases l2 with l | l
          · exact l.2.2
          · omega
        rw [if_neg (c := ¬ (48 ≤ T (p + 2) ∧ T (p + 2) ≤ 50)) (fun z => z h3), l2]
        simp only [y10, if_true, ne_eq, not_false_eq_true]
        repeat' (split <;> try (exfalso; omega))
        all_goals first
          | exact ⟨Or.inl ⟨by dsimp only; omega, by dsimp only; omega⟩, Sm_u, Sm_r, Sm_r⟩
          | exact ⟨Or.inl ⟨by dsimp only; omega, by dsimp only; omega⟩, Sm_u, Sm_u, Sm_r⟩
          | exact ⟨Or.inr ⟨rfl, hy3, rfl, by show (upd a20 c _ c).toInt = _; rw [upd_s]; omega, by show (upd a21 c _ c).toInt = _; rw [upd_s]; omega, by show (upd a22 c _ c).toInt = _; rw [upd_s]; omega⟩, Sm_u, Sm_u, Sm_u⟩
      · have l2 : F_m12_lies w2 0 2 = 0 := by
          rcases l2 with l | l
          · omega
          · exact l.2
        rw [if_pos (c := ¬ (48 ≤ T (p + 2) ∧ T (p + 2) ≤ 50)) h3, l2]
        simp only [y00, if_false, ne_eq, not_true_eq_false]
        repeat' (split <;> try (exfalso; omega))
        all_goals first
          | exact ⟨Or.inl ⟨by dsimp only; omega, by dsimp only; omega⟩, Sm_u, Sm_r, Sm_r⟩
          | exact ⟨Or.inl ⟨by dsimp only; omega, by dsimp only; omega⟩, Sm_u, Sm_u, Sm_r⟩
    · have l1 : F_m12_lies w1 0 2 = 0 := by
        rcases l1 with l | l
        · omega
        · exact l.2
      rw [if_pos (c := ¬ (48 ≤ T (p + 1) ∧ T (p + 1) ≤ 50)) h2, l1]
      simp only [y00, if_false, ne_eq, not_true_eq_false]
      repeat' (split <;> try (exfalso; omega))
      all_goals exact ⟨Or.inl ⟨by dsimp only; omega, by dsimp only; omega⟩, Sm_u, Sm_r, Sm_r⟩
  · have l0 : F_m12_lies w0 0 2 = 0 := by
      rcases l0 with l | l
      · omega
      · exact l.2
    rw [if_pos h1, l0, if_neg n00]
    exact ⟨Or.inl ⟨by show -1000 - (p : Int) < 0; omega, by show g10.toInt = -1000 - (p : Int); omega⟩, Sm_r, Sm_r, Sm_r⟩
end MCL
