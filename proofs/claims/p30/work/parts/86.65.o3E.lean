/-! each SLOT turns a TOKEN of its RENDERING, or is ADDED: kept by render -/
section TRS
variable {u0 u1 u2 i0 i1 i2 i3 i5 i6 i8 i9 i10 i17 i18 i19 i20 i21 i22 i23 i24 i35 : Int32} {a1 a7 a8 a13 a18 a19 a20 a21 a22 a23 a25 b12 : Nat → Int32} {r9n : Nat → Nat} {r9c : Nat → Nat → Int32} {og : Nat → Nat → Int32} {ogn : Nat → Nat → Nat} {ogc : Nat → Nat → Nat → Int32}
theorem ts_loop {sz : Int32} : ∀ (m f X : Nat) (x : Int32), x.toInt = (X : Int) → u2.toInt = (X : Int) + m → X + m ≤ 200 → m < f →
    f_x11_tapeHasSlots_j1 u2 sz i2 a1 f x = 0 ∨ ∀ i, X ≤ i → i < X + m → (a1 (2 * i + 1)).toInt = 8 ∨ (a1 (2 * i + 1)).toInt < sz.toInt := by
  have o1 := co1
  intro m
  induction m with
  | zero => intro f X x hx hu hb hf; exact Or.inr (fun i h1 h2 => absurd h2 (by omega))
  | succ m ih =>
    intro f X x hx hu hb hf
    obtain ⟨f, rfl⟩ : ∃ w, f = w + 1 := ⟨f - 1, by omega⟩
    have hx1 := toInt_add hx co1 (by omega) (by omega)
    have e1 := toInt_mul sc2 hx rfl (by omega) (by omega)
    have e2 := toInt_add e1 c1 (by omega) (by omega)
    rw [S_x11_tapeHasSlots_j1, if_neg (by omega), nc (p := 2 * X + 1) (x := ((2 : Int32) * x) + (1 : Int32)) (by omega)]
    have next : ((a1 (2 * X + 1)).toInt = 8 ∨ (a1 (2 * X + 1)).toInt < sz.toInt) → (f_x11_tapeHasSlots_j1 u2 sz i2 a1 f (x + Int32.ofInt 1) = 0 ∨ ∀ i, X ≤ i → i < X + (m + 1) → (a1 (2 * i + 1)).toInt = 8 ∨ (a1 (2 * i + 1)).toInt < sz.toInt) := by
      intro h
      rcases ih f (X + 1) (x + Int32.ofInt 1) (by omega) (by omega) (by omega) (by omega) with r | r
      · exact Or.inl r
      · refine Or.inr (fun i h1 h2 => ?_)
        by_cases e : i = X
        · rw [e]; exact h
        · exact r i (by omega) (by omega)
    by_cases w : (F_x10_has (a1 ((2 : Int32) * x).toNatClampNeg) i2).toInt = 0
    · rw [if_pos w]; exact Or.inl rfl
    · rw [if_neg w]
      by_cases w2 : (a1 (2 * X + 1)).toInt = 8
      · rw [if_pos w2]; exact next (Or.inl w2)
      · rw [if_neg w2]
        by_cases w3 : (a1 (2 * X + 1)).toInt < sz.toInt
        · rw [if_pos w3]; exact next (Or.inr w3)
        · rw [if_neg w3]; exact Or.inl rfl
theorem TRN_put {I tn N : Nat} {j10 : Int32} {tf gw gu : Nat → Int32} (h : TRN i10 ogn ogc) (hI : i10.toInt = (I : Int)) (hj : j10.toInt = (I : Int) + 1) (hs : ∀ i, i < N → (gu i).toInt = 8 ∨ (gu i).toInt < (tn : Int)) : TRN j10 (ognPut ogn I tn N) (ogcPut ogc I tf gw gu) := by
  intro r hr i hi
  have hi : i < (if r = I then (if (4 : Nat) = 3 then tn else N) else ogn 4 r) := hi
  show ((if r = I then (if (5 : Nat) = 3 then tf else if (5 : Nat) = 4 then gw else gu) else ogc 5 r) i).toInt = 8 ∨ ((if r = I then (if (5 : Nat) = 3 then tf else if (5 : Nat) = 4 then gw else gu) else ogc 5 r) i).toInt < ((if r = I then (if (3 : Nat) = 3 then tn else N) else ogn 3 r : Nat) : Int)
  by_cases e : r = I
  · rw [if_pos e, if_neg (by decide)] at hi
    rw [if_pos e, if_neg (by decide), if_neg (by decide), if_pos e, if_pos rfl]
    exact hs i hi
  · rw [if_neg e] at hi
    rw [if_neg e, if_neg e]
    exact h r (by omega) i hi
theorem R_TRN (h10 : 0 ≤ i10.toInt ∧ i10.toInt ≤ 200) (h5 : 0 ≤ i5.toInt ∧ i5.toInt ≤ 24) (hD : VDS i8 b12) (h : TRN i10 ogn ogc) {w : X15r} (hw : w = F_x11_render u0 u1 u2 i0 i1 i2 i3 i6 i5 i8 i9 i10 i17 i18 i19 i20 i21 i22 i23 i24 i35 a1 a7 a8 a13 a18 a19 a20 a21 a22 a23 a25 r9n r9c og ogn ogc) : TRN w.2.2.1 w.2.2.2.2.2.2.2.2.2.2.2.2.2.1 w.2.2.2.2.2.2.2.2.2.2.2.2.2.2 := by
  subst hw
  rcases xre (u0 := u0) (u1 := u1) (u2 := u2) (i0 := i0) (i1 := i1) (i2 := i2) (i3 := i3) (i6 := i6) (i9 := i9) (i10 := i10) (i17 := i17) (i18 := i18) (i19 := i19) (i20 := i20) (i21 := i21) (i22 := i22) (i23 := i23) (i24 := i24) (i35 := i35) (a1 := a1) (a7 := a7) (a8 := a8) (a13 := a13) (a18 := a18) (a19 := a19) (a20 := a20) (a21 := a21) (a22 := a22) (a23 := a23) (a25 := a25) (r9n := r9n) (r9c := r9c) (og := og) (ogn := ogn) (ogc := ogc) hD h5 with ⟨x1, x2⟩ | ⟨_, x2⟩
  · rw [x2]
    obtain ⟨_, _, _, k2, k3, _⟩ := x1
    generalize F_x6_aim u1 i1 i3 i6 i9 a7 a8 a13 a18 a19 a20 a21 a22 a23 a25 r9n r9c = t
    unfold XRC
    generalize F_x9_rowOf u1 (F_x6_firstCopy t.2.2.2.2.1) i3 r9n r9c = Q
    by_cases w1 : (Int32.ofNat Q.1).toInt = 0
    · rw [if_pos w1]; exact h
    · rw [if_neg w1]
      by_cases w2 : (F_x11_tapeHasSlots u2 (Int32.ofNat Q.1) i2 a1).toInt ≠ 0
      · rw [if_pos w2, E_x8_enter]
        obtain ⟨I, hI⟩ : ∃ I : Nat, i10.toInt = (I : Int) := ⟨i10.toInt.toNat, by omega⟩
        obtain ⟨N, hN⟩ : ∃ N : Nat, u2.toInt = (N : Int) := ⟨u2.toInt.toNat, by omega⟩
        have ej := toInt_add hI c1 (by omega) (by omega)
        rw [nc hI, nc hN]
        refine TRN_put (i10 := i10) h hI ej (fun i hi => ?_)
        have ef : F_x11_tapeHasSlots u2 (Int32.ofNat Q.1) i2 a1 = f_x11_tapeHasSlots_j1 u2 (Int32.ofNat Q.1) i2 a1 13 0 := rfl
        rw [ef] at w2
        rcases ts_loop (u2 := u2) (sz := Int32.ofNat Q.1) (i2 := i2) (a1 := a1) N 13 0 0 c0 (by omega) (by omega) (by omega) with z | z
        · rw [z] at w2; exact absurd c0 w2
        · obtain ⟨f1, -⟩ := fill_loop (a1 := a1) hN (by omega) N 13 0 (0 : Int32) z0 z0 c0 (by omega) (by omega)
          rw [E_x7_fill, (f1 i (Nat.zero_le i) hi).2]
          have hle : (Int32.ofNat Q.1).toInt ≤ (Q.1 : Int) := by
            rcases Nat.lt_or_ge Q.1 2147483648 with y | y
            · rw [Int32.toInt_ofNat_of_lt (by omega)]; exact Int.le_refl _
            · have hb : (Int32.ofNat Q.1).toInt < 2147483648 := Int32.toInt_lt (Int32.ofNat Q.1)
              have hc : (2147483648 : Int) ≤ (Q.1 : Int) := Int.ofNat_le.mpr y
              exact Int.le_trans (Int.le_of_lt hb) hc
          rcases z i (Nat.zero_le i) (by omega) with y | y
          · exact Or.inl y
          · exact Or.inr (by omega)
      · rw [if_neg w2]; exact h
  · rw [x2]; exact h
end TRS
