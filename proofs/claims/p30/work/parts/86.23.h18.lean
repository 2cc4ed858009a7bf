/-! small calls, on both sides -/
theorem R_now {u0 i1 : Int32} (h : 0 ≤ i1.toInt ∧ i1.toInt ≤ 3999) : F_x11_now u0 i1 = F_m12_now u0 i1 ∧ 0 ≤ (F_x11_now u0 i1).2.toInt ∧ (F_x11_now u0 i1).2.toInt ≤ 3999 := by
  rw [E_x11_now, E_m12_now]
  rcases mlie (u := u0) (a := i1) (b := 3999) rfl (show (3999 : Int32).toInt = 3999 by decide) with ⟨g1, g⟩ | ⟨g1, g⟩
  · rw [g, if_pos y10]
    rcases xday (u := u0) with ⟨_, k⟩ | ⟨k1, _⟩
    · rw [k, if_neg n10, if_pos (show u0.toInt ≥ i1.toInt by omega)]
      exact ⟨rfl, by show 0 ≤ u0.toInt; omega, by show u0.toInt ≤ 3999; omega⟩
    · omega
  · rw [g, if_neg n00]
    rcases xday (u := u0) with ⟨_, k⟩ | ⟨_, k⟩
    · rw [k, if_neg n10, if_neg (show ¬ u0.toInt ≥ i1.toInt by omega)]
      exact ⟨rfl, h⟩
    · rw [k, if_pos y00]
      exact ⟨rfl, h⟩
theorem VRS_add {i3 j3 v : Int32} {a7 b2 : Nat → Int32} {r : Nat} (hr : i3.toInt = (r : Int)) (hj : j3.toInt = (r : Int) + 1) (h : VRS i3 a7 b2) (hv : 0 ≤ v.toInt ∧ v.toInt ≤ 7) : VRS j3 (upd a7 r v) (upd b2 r v) := by
  intro i hi
  by_cases w : i = r
  · subst w
    rw [upd_s, upd_s]; exact ⟨rfl, hv⟩
  · have n : ∀ (f : Nat → Int32) (x : Int32), upd f r x i = f i := fun f x => by unfold upd; rw [if_neg w]
    rw [n, n]; exact h i (by omega)
def RVE (x : Int32 × Int32 × (Nat → Int32) × (Nat → Int32)) (m : Int32 × Int32 × (Nat → Int32) × (Nat → Int32)) : Prop := x.1 = m.1 ∧ x.2.1 = m.2.1 ∧ VRS x.2.1 x.2.2.1 m.2.2.1 ∧ 0 ≤ x.2.1.toInt ∧ x.2.1.toInt ≤ 60
theorem R_verse {u0 u1 i3 : Int32} {a7 a8 b2 b3 : Nat → Int32} (h : 0 ≤ i3.toInt ∧ i3.toInt ≤ 60) (hV : VRS i3 a7 b2) : RVE (F_x11_verse u0 u1 i3 a7 a8) (F_m12_verse u0 u1 i3 b2 b3) := by
  have c7 : (7 : Int32).toInt = 7 := by decide
  have c40 : (40 : Int32).toInt = 40 := by decide
  have no : RVE ((-1 : Int32), i3, a7, a8) ((-1 : Int32), i3, b2, b3) := ⟨rfl, rfl, hV, h⟩
  rw [E_x11_verse, E_m12_verse, E_x9_enter]
  rcases mlie (u := u0) c0 c7 with ⟨g1, g⟩ | ⟨g1, g⟩
  · rcases mlie (u := u1) c0 c40 with ⟨k1, k⟩ | ⟨k1, k⟩
    · rw [g, k, if_neg n10, if_pos y10, if_neg (show ¬ u0.toInt < 0 by omega), if_neg (show ¬ u0.toInt > 7 by omega), if_neg (show ¬ u1.toInt < 0 by omega), if_pos (show u1.toInt ≤ 40 by omega)]
      by_cases w : i3.toInt = 60
      · rw [if_pos w, if_neg (show ¬ i3.toInt < 60 by omega)]
        exact no
      · rw [if_neg w, if_pos (show i3.toInt < 60 by omega)]
        obtain ⟨r, hr⟩ : ∃ r : Nat, i3.toInt = (r : Int) := ⟨i3.toInt.toNat, by omega⟩
        have ej := toInt_add hr c1 (by omega) (by omega)
        rw [nc hr]
        exact ⟨rfl, rfl, VRS_add hr ej hV g1, by show 0 ≤ (i3 + 1).toInt; omega, by show (i3 + 1).toInt ≤ 60; omega⟩
    · have e : (if i3.toInt = 60 then ((-1 : Int32), i3, b2, b3) else (if (F_m12_lies u0 0 7).toInt = 0 then ((-1 : Int32), i3, b2, b3) else (if (F_m12_lies u1 0 40).toInt ≠ 0 then (i3 + 1 - 1, i3 + 1, upd b2 i3.toNatClampNeg u0, upd b3 i3.toNatClampNeg u1) else ((-1 : Int32), i3, b2, b3)))) = ((-1 : Int32), i3, b2, b3) := by
        rw [g, k, if_neg n10, if_neg n00]
        by_cases w : i3.toInt = 60
        · rw [if_pos w]
        · rw [if_neg w]
      rw [e, if_neg (show ¬ u0.toInt < 0 by omega), if_neg (show ¬ u0.toInt > 7 by omega)]
      by_cases w : u1.toInt < 0
      · rw [if_pos w]; exact no
      · rw [if_neg w, if_neg (show ¬ u1.toInt ≤ 40 by omega)]; exact no
  · have e : (if i3.toInt = 60 then ((-1 : Int32), i3, b2, b3) else (if (F_m12_lies u0 0 7).toInt = 0 then ((-1 : Int32), i3, b2, b3) else (if (F_m12_lies u1 0 40).toInt ≠ 0 then (i3 + 1 - 1, i3 + 1, upd b2 i3.toNatClampNeg u0, upd b3 i3.toNatClampNeg u1) else ((-1 : Int32), i3, b2, b3)))) = ((-1 : Int32), i3, b2, b3) := by
      rw [g, if_pos y00]
      by_cases w : i3.toInt = 60
      · rw [if_pos w]
      · rw [if_neg w]
    rw [e]
    by_cases w : u0.toInt < 0
    · rw [if_pos w]; exact no
    · rw [if_neg w, if_pos (show u0.toInt > 7 by omega)]; exact no
theorem PPL_add {i6 j6 v : Int32} {a13 b8 : Nat → Int32} {r : Nat} (hr : i6.toInt = (r : Int)) (hj : j6.toInt = (r : Int) + 1) (h : PPL i6 a13 b8) : PPL j6 (upd a13 r v) (upd b8 r v) := by
  intro i hi
  by_cases w : i = r
  · subst w
    rw [upd_s, upd_s]
  · have n : ∀ (f : Nat → Int32) (x : Int32), upd f r x i = f i := fun f x => by unfold upd; rw [if_neg w]
    rw [n, n]; exact h i (by omega)
def RCO (x : Int32 × Int32 × (Nat → Int32) × (Nat → Int32)) (m : Int32 × Int32 × (Nat → Int32)) : Prop := x.1 = m.1 ∧ x.2.1 = m.2.1 ∧ PPL x.2.1 x.2.2.1 m.2.2 ∧ 0 ≤ x.2.1.toInt ∧ x.2.1.toInt ≤ 6
theorem R_company {u0 u1 i6 : Int32} {a13 a14 b8 : Nat → Int32} (h : 0 ≤ i6.toInt ∧ i6.toInt ≤ 6) (hP : PPL i6 a13 b8) : RCO (F_x11_company u0 u1 i6 a13 a14) (F_m12_company u0 u1 i6 b8) := by
  have c255 : (255 : Int32).toInt = 255 := by decide
  have c99 : (99 : Int32).toInt = 99 := by decide
  have no : RCO ((-1 : Int32), i6, a13, a14) ((-1 : Int32), i6, b8) := ⟨rfl, rfl, hP, h⟩
  have rt : F_x11_isRate u1 = if u1.toInt < 0 then (0 : Int32) else (if u1.toInt > 99 then (0 : Int32) else (1 : Int32)) := rfl
  rw [E_x11_company, E_m12_company, E_x4_enterCompany, rt]
  rcases mlie (u := u0) c0 c255 with ⟨g1, g⟩ | ⟨g1, g⟩
  · rcases mlie (u := u1) c0 c99 with ⟨k1, k⟩ | ⟨k1, k⟩
    · rw [g, k, if_neg n10, if_pos y10, if_neg (show ¬ u0.toInt < 0 by omega), if_neg (show ¬ u0.toInt > 255 by omega), if_neg (show ¬ u1.toInt < 0 by omega), if_neg (show ¬ u1.toInt > 99 by omega), if_pos y10]
      by_cases w : i6.toInt = 6
      · rw [if_pos w, if_neg (show ¬ i6.toInt < 6 by omega)]
        exact no
      · rw [if_neg w, if_pos (show i6.toInt < 6 by omega)]
        obtain ⟨r, hr⟩ : ∃ r : Nat, i6.toInt = (r : Int) := ⟨i6.toInt.toNat, by omega⟩
        have ej := toInt_add hr c1 (by omega) (by omega)
        rw [nc hr]
        exact ⟨rfl, rfl, PPL_add hr ej hP, by show 0 ≤ (i6 + 1).toInt; omega, by show (i6 + 1).toInt ≤ 6; omega⟩
    · have e : (if i6.toInt = 6 then ((-1 : Int32), i6, b8) else (if (F_m12_lies u0 0 255).toInt = 0 then ((-1 : Int32), i6, b8) else (if (F_m12_lies u1 0 99).toInt ≠ 0 then (i6 + 1 - 1, i6 + 1, upd b8 i6.toNatClampNeg u0) else ((-1 : Int32), i6, b8)))) = ((-1 : Int32), i6, b8) := by
        rw [g, k, if_neg n10, if_neg n00]
        by_cases w : i6.toInt = 6
        · rw [if_pos w]
        · rw [if_neg w]
      rw [e, if_neg (show ¬ u0.toInt < 0 by omega), if_neg (show ¬ u0.toInt > 255 by omega)]
      by_cases w : u1.toInt < 0
      · rw [if_pos w, if_neg n00]; exact no
      · rw [if_neg w, if_pos (show u1.toInt > 99 by omega), if_neg n00]; exact no
  · have e : (if i6.toInt = 6 then ((-1 : Int32), i6, b8) else (if (F_m12_lies u0 0 255).toInt = 0 then ((-1 : Int32), i6, b8) else (if (F_m12_lies u1 0 99).toInt ≠ 0 then (i6 + 1 - 1, i6 + 1, upd b8 i6.toNatClampNeg u0) else ((-1 : Int32), i6, b8)))) = ((-1 : Int32), i6, b8) := by
      rw [g, if_pos y00]
      by_cases w : i6.toInt = 6
      · rw [if_pos w]
      · rw [if_neg w]
    rw [e]
    by_cases w : u0.toInt < 0
    · rw [if_pos w]; exact no
    · rw [if_neg w, if_pos (show u0.toInt > 255 by omega)]; exact no
def VDS (i8 : Int32) (b12 : Nat → Int32) : Prop := ∀ s : Nat, s < 24 → (bitI i8 s = true ↔ (b12 s).toInt ≠ 0)
theorem xsch {u i7 : Int32} : ((0 ≤ u.toInt ∧ u.toInt < i7.toInt) ∧ F_x4_hasScholar u i7 = 1) ∨ (¬ (0 ≤ u.toInt ∧ u.toInt < i7.toInt) ∧ F_x4_hasScholar u i7 = 0) := by
  rw [E_x4_hasScholar]
  by_cases h : u.toInt < 0
  · right; rw [if_pos h]; exact ⟨by omega, rfl⟩
  · rw [if_neg h]
    by_cases g : u.toInt ≥ i7.toInt
    · right; rw [if_pos g]; exact ⟨by omega, rfl⟩
    · left; rw [if_neg g]; exact ⟨by omega, rfl⟩
theorem vd_at {u i8 : Int32} {b12 : Nat → Int32} (h : VDS i8 b12) (h0 : 0 ≤ u.toInt ∧ u.toInt < 24) : ((b12 u.toNatClampNeg).toInt = 0 ∧ F_x4_isVoid u i8 = 0) ∨ ((b12 u.toNatClampNeg).toInt ≠ 0 ∧ F_x4_isVoid u i8 = 1) := by
  have p := qI_pow (x := i8) h0.1 (by omega)
  have q := h u.toInt.toNat (by omega)
  have e : u.toNatClampNeg = u.toInt.toNat := rfl
  rw [E_x4_isVoid, e]
  by_cases w : bitI i8 u.toInt.toNat = false
  · left
    rw [if_pos (p.mpr w)]
    refine ⟨?_, rfl⟩
    by_cases z : (b12 u.toInt.toNat).toInt = 0
    · exact z
    · have := q.mpr z; rw [w] at this; cases this
  · right
    have w' : bitI i8 u.toInt.toNat = true := by revert w; cases bitI i8 u.toInt.toNat <;> simp
    rw [if_neg (fun z => w (p.mp z))]
    exact ⟨q.mp w', rfl⟩
theorem upd_n {f : Nat → Int32} {c k : Nat} {x : Int32} (h : k ≠ c) : upd f c x k = f k := by unfold upd; rw [if_neg h]
